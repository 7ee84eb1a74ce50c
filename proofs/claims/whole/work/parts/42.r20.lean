def m_op (M : mA) (e : Int32) (f : Nat → Nat × Int32 × mA) : Nat × Int32 × mA := match m_ix1 M.1.length e with
  | none => (1, 0, M)
  | some k => if ma_s M k then (2, 0, M) else f k
theorem m_op_no {M : mA} {e : Int32} {f : Nat → Nat × Int32 × mA} (h : ¬ m_opF M e = 0) : m_op M e f = (m_opF M e, 0, M) := by
  unfold m_op m_opF at *
  cases hq : m_ix1 M.1.length e with
  | none => rfl
  | some k =>
    rw [hq] at h
    dsimp only at h ⊢
    cases hs : ma_s M k with
    | true => rfl
    | false => rw [hs] at h; exact absurd rfl h
theorem m_op_yes {M : mA} {e : Int32} {k : Nat} {f : Nat → Nat × Int32 × mA} (h : m_ix1 M.1.length e = some k) (hs : ma_s M k = false) : m_op M e f = f k := by
  unfold m_op
  rw [h]
  dsimp only
  rw [hs]; rfl
theorem opF_0 {M : mA} {e : Int32} (h : m_opF M e = 0) (hn : M.1.length < 2 ^ 31) : ∃ k, k < M.1.length ∧ e = nI k ∧ m_ix1 M.1.length e = some k ∧ ma_s M k = false := by
  cases hb : rr_lt e M.1.length with
  | false =>
    unfold m_opF at h
    rw [rr_lt_f hb] at h
    cases h
  | true =>
    obtain ⟨k, h1, h2, h3⟩ := rr_lt_t hn hb
    refine ⟨k, h1, h2, h3, ?_⟩
    unfold m_opF at h
    rw [h3] at h
    dsimp only at h
    cases hs : ma_s M k with
    | false => rfl
    | true => rw [hs] at h; cases h
theorem opF_lt (M : mA) (e : Int32) : m_opF M e < 3 := by
  unfold m_opF
  split
  · decide
  · split <;> decide
/-- a number between bounds -/
theorem in_N {a : Int32} {k : Nat} (hk : k < 2 ^ 31) (h : rr_in a (nI 0) (nI k) = true) : a.toNatClampNeg ≤ k ∧ a = nI a.toNatClampNeg := by
  simp only [rr_in, Bool.and_eq_true, Bool.not_eq_true', decide_eq_false_iff_not] at h
  obtain ⟨n, hn, e⟩ := nI_of2 (M := nI k) (n := k) hk h.1 (by
    rw [Int32.le_iff_toInt_le]
    have h2 := h.2
    rw [Int32.lt_iff_toInt_lt] at h2
    omega)
  rw [e, nI_clamp (by omega)]
  exact ⟨by omega, rfl⟩
def m_oI (s : Int32) : Option Nat := if s = -1 then none else some s.toNatClampNeg
theorem in_O {s : Int32} {k : Nat} (hk : k < 2 ^ 31) (h : rr_in s (-1) (nI k) = true) : s = jv_oN (m_oI s) ∧ ∀ u, m_oI s = some u → u ≤ k := by
  unfold m_oI
  by_cases hs : s = -1
  · rw [if_pos hs, hs]
    exact ⟨rfl, fun u e => by cases e⟩
  · rw [if_neg hs]
    have h0 : rr_in s (nI 0) (nI k) = true := by
      simp only [rr_in, Bool.and_eq_true, Bool.not_eq_true', decide_eq_false_iff_not] at h ⊢
      refine ⟨fun z => ?_, h.2⟩
      have h1 := h.1
      rw [Int32.lt_iff_toInt_lt] at z h1
      have z2 : s.toInt < 0 := z
      have h2 : ¬ s.toInt < -1 := h1
      exact hs (Int32.toInt_inj.mp (show s.toInt = -1 by omega))
    have h3 := in_N hk h0
    exact ⟨h3.2, fun u e => by cases e; exact h3.1⟩
def m_tyG (n : Int32) (i : Bool) (p s : Int32) : Bool := rr_in n (nI 0) (nI 15) && rr_in p (nI 0) (nI 3) && rr_in s (-1) (nI 15) && (!i || decide (s = -1))
def m_tyN (n : Int32) (i a : Bool) (p : Int32) (pb : Bool) (s : Int32) : mT := (n.toNatClampNeg, i, a, p.toNatClampNeg, pb, m_oI s, [], [])
def m_ty (M : mA) (e n : Int32) (i a : Bool) (p : Int32) (pb : Bool) (s : Int32) : Nat × Int32 × mA := m_op M e (fun k => if m_tyG n i p s && (m_at (ma_t M k) n).isNone then if (ma_t M k).length = 10 then (4, 0, M) else (0, nI ((ma_t M k).length + 1), m_put M k (false, ma_t M k ++ [m_tyN n i (i || a) p pb s])) else (3, 0, M))
theorem rf_T.new {q : Nat → Nat} {h : jv_H} {j : Nat} {n p s : Int32} {i a b : Bool} (h4 : jv_I h (q 4) j = n) (h5 : jv_I h (q 5) j = jv_bI i) (h6 : jv_I h (q 6) j = jv_bI a) (h7 : jv_I h (q 7) j = p) (h8 : jv_I h (q 8) j = jv_bI b) (h9 : jv_I h (q 9) j = s) (h10 : jv_I h (q 10) j = nI 0) (h12 : jv_I h (q 12) j = nI 0) (g : m_tyG n i p s = true) : rf_T q h j (m_tyN n i a p b s) ∧ mt_ok (m_tyN n i a p b s) := by
  unfold m_tyG at g
  simp only [Bool.and_eq_true] at g
  obtain ⟨⟨⟨g1, g2⟩, g3⟩, g4⟩ := g
  have a1 := in_N (by decide) g1
  have a2 := in_N (by decide) g2
  have a3 := in_O (by decide) g3
  refine ⟨⟨h4.trans a1.2, h5, h6, h7.trans a2.2, h8, h9.trans a3.1, h10, h12, fun j v e => by simp [m_tyN, mt_f] at e, fun j v e => by simp [m_tyN, mt_m] at e⟩, ?_⟩
  refine ⟨Nat.lt_succ_of_le a1.1, Nat.lt_succ_of_le a2.1, fun u hu => ⟨Nat.lt_succ_of_le (a3.2 u hu), ?_⟩, Nat.zero_le _, fun v hv => by simp [m_tyN, mt_f] at hv, Nat.zero_le _, fun v hv => by simp [m_tyN, mt_m] at hv⟩
  show i = false
  cases i with
  | false => rfl
  | true =>
    have hs : s = -1 := by simpa using g4
    exfalso
    have hu : m_oI s = some u := hu
    unfold m_oI at hu
    rw [if_pos hs] at hu
    cases hu
def w_T1 (e n k j : Nat) : Prop := (k = 3 ∧ j = e) ∨ o_T (10 * e + n) k j
theorem w_T1_E {e n k j : Nat} (hn : n < 10) (w : w_T1 e n k j) : w_E e k j := by
  unfold w_T1 o_T k_t k_m at w
  unfold w_E o_E k_t k_m
  omega
theorem rf_E.snoc {x : Nat} {q : Nat → Nat} {h0 h : jv_H} {X : Nat → Prop} {e : Nat} {ts : List mT} {t : mT} (hE : rf_E q h0 e ts) (a : FW (w_T1 e ts.length) X x q h0 h) (h3 : jv_I h (q 3) e = nI (ts.length + 1)) (hl : ts.length < 10) (hT : rf_T q h (10 * e + ts.length) t ∧ mt_ok t) : rf_E q h e (ts ++ [t]) := by
  refine ⟨by rw [h3, List.length_append]; rfl, by rw [List.length_append]; exact hl, fun k t' ht => ?_⟩
  have h1 := jv_ltGet ht
  rw [List.length_append, List.length_singleton] at h1
  by_cases hk : k = ts.length
  · subst hk
    rw [List.getElem?_append_right (Nat.le_refl _), Nat.sub_self] at ht
    cases ht
    exact hT
  · rw [List.getElem?_append_left (by omega)] at ht
    refine ⟨a.T (hE.2.2 k t' ht).2 (fun k' j o z => ?_) (hE.2.2 k t' ht).1, (hE.2.2 k t' ht).2⟩
    rcases z with z | z
    · unfold o_T k_t k_m at o
      omega
    · have := w_CT o z
      omega
/-- one type anew -/
theorem rf_E.upd {x : Nat} {q : Nat → Nat} {h0 h : jv_H} {X : Nat → Prop} {e i : Nat} {ts : List mT} {t : mT} (hE : rf_E q h0 e ts) (hi : i < ts.length) (a : FW (o_T (10 * e + i)) X x q h0 h) (hT : rf_T q h (10 * e + i) t ∧ mt_ok t) : rf_E q h e (ts.set i t) := by
  refine ⟨by rw [List.length_set]; exact (a.aq 3 e (by unfold o_T k_t k_m; omega)).trans hE.1, by rw [List.length_set]; exact hE.2.1, fun k t' ht => ?_⟩
  by_cases hk : k = i
  · subst hk
    rw [List.getElem?_set_self hi] at ht
    cases ht
    exact hT
  · rw [List.getElem?_set_ne (Ne.symm hk)] at ht
    refine ⟨a.T (hE.2.2 k t' ht).2 (fun k' j o z => ?_) (hE.2.2 k t' ht).1, (hE.2.2 k t' ht).2⟩
    have := w_CT o z
    omega
theorem o_T_E {e i k j : Nat} (hi : i < 10) (w : o_T (10 * e + i) k j) : w_E e k j := Or.inl (w_C3 ⟨i, hi, w⟩).2.2
set_option maxHeartbeats 4000000 in
set_option maxRecDepth 100000 in
theorem r_type {lA : Launch} (hlt : lA.stackTraces = false) {D : jv_D} {base : Nat} {x : Nat} {q : Nat → Nat} {h : jv_H} {M : mA} {e n p s : Int32} {i a b : Bool} (hR : rf_R x q h M) : jv_Met lA D base yX8_type (.code yX8_type cX8_type 10 (some .int)) 3 0 0 [.ref x, .int e, .int n, .int (jv_bI i), .int (jv_bI a), .int p, .int (jv_bI b), .int s] h (pO x q h (m_ty M e n i a p b s)) jv_no := by
  refine jv_ofV (lo := [(0, .ref x), (1, .int e), (2, .int n), (3, .int (jv_bI i)), (4, .int (jv_bI a)), (5, .int p), (6, .int (jv_bI b)), (7, .int s)]) hlt (by decide) (Nat.le_of_ble_eq_true rfl) rfl (fun E hEl hEd hEz Z G hr ht hnm => ?_)
  subst hEl; subst hEd; subst hEz
  obtain ⟨hS, ⟨hn8, hn⟩, ⟨hm12, hm⟩, hD, hV, hCs⟩ := id hR
  have hS0 := hS
  have hrs : rs x q h h := rs.rf
  have hsc : sc x q h h := sc.rf
  have hop := opF_lt M e
  refine jv_aload_n (q := 1) G 0 dX8_type_0 rfl rfl rfl ?_
  refine jv_aload_n (q := 2) G 0 dX8_type_1 rfl rfl rfl ?_
  refine jv_iload_n (q := 3) G 1 dX8_type_2 rfl rfl rfl ?_
  refine jv_callV_I (q := 6) (h1 := h) (As := [.int e]) (rest := [.ref x]) (ce' := 0) (sl' := 0) (r := nI (m_opF M e)) G Z ml_X8_143 (r_openFault hlt hR) hS.1 dX8_type_3 rfl (by decide) (by decide) (by decide) (by decide) (Nat.le_of_ble_eq_true rfl) rfl rfl rfl rfl ?_
  refine jv_putI (q := 9) G dX8_type_6 fl_X8_122 rfl hS.1 rfl ?_
  have hr1 : rs x q h (jv_wI h x 0 (nI (m_opF M e))) := rs.rf.wI (nI (m_opF M e)) (Or.inl ⟨rfl, Or.inl rfl⟩)
  have hth : jv_I (jv_wI h x 0 (nI (m_opF M e))) x 0 = (nI (m_opF M e)) := jv_I_self _ _ _ _
  have hR := hr1.R hR
  have hrs := hrs.tr hr1
  generalize jv_wI h x 0 (nI (m_opF M e)) = h1 at hth hR hrs ⊢
  obtain ⟨hS, ⟨hn8, hn⟩, ⟨hm12, hm⟩, hD, hV, hCs⟩ := id hR
  have hsc : sc x q h1 h1 := sc.rf
  refine jv_aload_n (q := 10) G 0 dX8_type_9 rfl rfl rfl ?_
  refine jv_getI (q := 13) G dX8_type_10 fl_X8_122 rfl hS.1 hth rfl ?_
  refine jv_if_leN (q := 16) (tgt := 18) G dX8_type_13 (by decide) rfl (by omega) (fun c2 => ?_) (fun c2 => ?_)
  · obtain ⟨k_e, hke, eke, zke, hse⟩ := opF_0 c2 (by omega)
    have e0 := c2
    subst eke
    rw [e0] at hth
    have hE := (hD k_e (by omega)).2
    have hl10 := hE.2.1
    refine jv_iload_n (q := 19) G 2 dX8_type_18 rfl rfl rfl ?_
    refine jv_iconst (q := 20) (v := nI 0) G dX8_type_19 (by decide) rfl ?_
    refine jv_bipush (q := 22) (v := nI 15) G dX8_type_20 (by decide) rfl ?_
    refine jv_callS_I (q := 25) (h1 := h1) (As := [.int n, .int (nI 0), .int (nI 15)]) (rest := []) (ce' := 0) (sl' := 0) (r := jv_bI (rr_in n (nI 0) (nI 15))) G Z ml_X8_147 (r_isIn hlt) dX8_type_22 rfl (by decide) (by decide) (by decide) (by decide) (Nat.le_of_ble_eq_true rfl) rfl rfl rfl rfl ?_
    refine jv_if_eqB (q := 28) (tgt := 63) G dX8_type_25 (by decide) rfl (fun c3 => ?_) (fun c3 => ?_)
    · refine jv_iconst (q := 64) (v := nI 0) G dX8_type_63 (by decide) rfl ?_
      refine jv_istore (q := 66) (lo' := [(8, .int (nI 0)), (0, .ref x), (1, .int (nI k_e)), (2, .int n), (3, .int (jv_bI i)), (4, .int (jv_bI a)), (5, .int p), (6, .int (jv_bI b)), (7, .int s)]) G dX8_type_64 (by decide) rfl rfl ?_
      refine jv_aload_n (q := 67) G 1 dX8_type_66 rfl rfl rfl ?_
      refine jv_iload (q := 69) G 0 dX8_type_67 rfl rfl ?_
      refine jv_if_eqN (q := 72) (tgt := 82) G dX8_type_69 (by decide) rfl (by omega) (fun c4 => ?_) (fun c4 => ?_)
      · refine jv_iconst (q := 83) (v := nI 3) G dX8_type_82 (by decide) rfl ?_
        refine jv_goto (q := 102) G dX8_type_83 (by decide) ?_
        refine jv_putI (q := 105) G dX8_type_102 fl_X8_122 rfl hS.1 rfl ?_
        have hr1 : rs x q h1 (jv_wI h1 x 0 (nI 3)) := rs.rf.wI (nI 3) (Or.inl ⟨rfl, Or.inl rfl⟩)
        have hth : jv_I (jv_wI h1 x 0 (nI 3)) x 0 = (nI 3) := jv_I_self _ _ _ _
        have hR := hr1.R hR
        have hrs := hrs.tr hr1
        generalize jv_wI h1 x 0 (nI 3) = h5 at hth hR hrs ⊢
        obtain ⟨hS, ⟨hn8, hn⟩, ⟨hm12, hm⟩, hD, hV, hCs⟩ := id hR
        have hsc : sc x q h5 h5 := sc.rf
        have hE := (hD k_e (by omega)).2
        refine jv_aload_n (q := 106) G 1 dX8_type_105 rfl rfl rfl ?_
        refine jv_getI (q := 109) G dX8_type_106 fl_X8_122 rfl hS.1 hth rfl ?_
        refine jv_if_leN (q := 112) (tgt := 114) G dX8_type_109 (by decide) rfl (by omega) (fun c6 => ?_) (fun c6 => ?_)
        · omega
        · refine jv_iconst (q := 113) (v := nI 0) G dX8_type_112 (by decide) rfl ?_
          refine jv_iret G hr dX8_type_113 (Nat.le_of_ble_eq_true rfl) (Nat.le_of_ble_eq_true rfl) ?_
          refine pO.no (M := M) hS0 ?_ rfl hth hR hrs
          unfold m_ty; rw [m_op_yes zke hse]; unfold m_tyG
          simp only [*, if_true, if_false, Bool.false_eq_true, reduceIte, Bool.and_true, Bool.and_false, Bool.true_and, Bool.false_and, Bool.not_true, Bool.not_false, Bool.true_or, Bool.or_true, Bool.false_or, Option.isNone_some, Option.isNone_none, decide_true, decide_false]
      · omega
    · refine jv_iload (q := 30) G 5 dX8_type_28 rfl rfl ?_
      refine jv_iconst (q := 31) (v := nI 0) G dX8_type_30 (by decide) rfl ?_
      refine jv_iconst (q := 32) (v := nI 3) G dX8_type_31 (by decide) rfl ?_
      refine jv_callS_I (q := 35) (h1 := h1) (As := [.int p, .int (nI 0), .int (nI 3)]) (rest := []) (ce' := 0) (sl' := 0) (r := jv_bI (rr_in p (nI 0) (nI 3))) G Z ml_X8_147 (r_isIn hlt) dX8_type_32 rfl (by decide) (by decide) (by decide) (by decide) (Nat.le_of_ble_eq_true rfl) rfl rfl rfl rfl ?_
      refine jv_if_eqB (q := 38) (tgt := 63) G dX8_type_35 (by decide) rfl (fun c7 => ?_) (fun c7 => ?_)
      · refine jv_iconst (q := 64) (v := nI 0) G dX8_type_63 (by decide) rfl ?_
        refine jv_istore (q := 66) (lo' := [(8, .int (nI 0)), (0, .ref x), (1, .int (nI k_e)), (2, .int n), (3, .int (jv_bI i)), (4, .int (jv_bI a)), (5, .int p), (6, .int (jv_bI b)), (7, .int s)]) G dX8_type_64 (by decide) rfl rfl ?_
        refine jv_aload_n (q := 67) G 1 dX8_type_66 rfl rfl rfl ?_
        refine jv_iload (q := 69) G 0 dX8_type_67 rfl rfl ?_
        refine jv_if_eqN (q := 72) (tgt := 82) G dX8_type_69 (by decide) rfl (by omega) (fun c8 => ?_) (fun c8 => ?_)
        · refine jv_iconst (q := 83) (v := nI 3) G dX8_type_82 (by decide) rfl ?_
          refine jv_goto (q := 102) G dX8_type_83 (by decide) ?_
          refine jv_putI (q := 105) G dX8_type_102 fl_X8_122 rfl hS.1 rfl ?_
          have hr1 : rs x q h1 (jv_wI h1 x 0 (nI 3)) := rs.rf.wI (nI 3) (Or.inl ⟨rfl, Or.inl rfl⟩)
          have hth : jv_I (jv_wI h1 x 0 (nI 3)) x 0 = (nI 3) := jv_I_self _ _ _ _
          have hR := hr1.R hR
          have hrs := hrs.tr hr1
          generalize jv_wI h1 x 0 (nI 3) = h9 at hth hR hrs ⊢
          obtain ⟨hS, ⟨hn8, hn⟩, ⟨hm12, hm⟩, hD, hV, hCs⟩ := id hR
          have hsc : sc x q h9 h9 := sc.rf
          have hE := (hD k_e (by omega)).2
          refine jv_aload_n (q := 106) G 1 dX8_type_105 rfl rfl rfl ?_
          refine jv_getI (q := 109) G dX8_type_106 fl_X8_122 rfl hS.1 hth rfl ?_
          refine jv_if_leN (q := 112) (tgt := 114) G dX8_type_109 (by decide) rfl (by omega) (fun c10 => ?_) (fun c10 => ?_)
          · omega
          · refine jv_iconst (q := 113) (v := nI 0) G dX8_type_112 (by decide) rfl ?_
            refine jv_iret G hr dX8_type_113 (Nat.le_of_ble_eq_true rfl) (Nat.le_of_ble_eq_true rfl) ?_
            refine pO.no (M := M) hS0 ?_ rfl hth hR hrs
            unfold m_ty; rw [m_op_yes zke hse]; unfold m_tyG
            simp only [*, if_true, if_false, Bool.false_eq_true, reduceIte, Bool.and_true, Bool.and_false, Bool.true_and, Bool.false_and, Bool.not_true, Bool.not_false, Bool.true_or, Bool.or_true, Bool.false_or, Option.isNone_some, Option.isNone_none, decide_true, decide_false]
        · omega
      · refine jv_iload (q := 40) G 7 dX8_type_38 rfl rfl ?_
        refine jv_iconst (q := 41) (v := (-1)) G dX8_type_40 (by decide) rfl ?_
        refine jv_bipush (q := 43) (v := nI 15) G dX8_type_41 (by decide) rfl ?_
        refine jv_callS_I (q := 46) (h1 := h1) (As := [.int s, .int (-1), .int (nI 15)]) (rest := []) (ce' := 0) (sl' := 0) (r := jv_bI (rr_in s (-1) (nI 15))) G Z ml_X8_147 (r_isIn hlt) dX8_type_43 rfl (by decide) (by decide) (by decide) (by decide) (Nat.le_of_ble_eq_true rfl) rfl rfl rfl rfl ?_
        refine jv_if_eqB (q := 49) (tgt := 63) G dX8_type_46 (by decide) rfl (fun c11 => ?_) (fun c11 => ?_)
        · refine jv_iconst (q := 64) (v := nI 0) G dX8_type_63 (by decide) rfl ?_
          refine jv_istore (q := 66) (lo' := [(8, .int (nI 0)), (0, .ref x), (1, .int (nI k_e)), (2, .int n), (3, .int (jv_bI i)), (4, .int (jv_bI a)), (5, .int p), (6, .int (jv_bI b)), (7, .int s)]) G dX8_type_64 (by decide) rfl rfl ?_
          refine jv_aload_n (q := 67) G 1 dX8_type_66 rfl rfl rfl ?_
          refine jv_iload (q := 69) G 0 dX8_type_67 rfl rfl ?_
          refine jv_if_eqN (q := 72) (tgt := 82) G dX8_type_69 (by decide) rfl (by omega) (fun c12 => ?_) (fun c12 => ?_)
          · refine jv_iconst (q := 83) (v := nI 3) G dX8_type_82 (by decide) rfl ?_
            refine jv_goto (q := 102) G dX8_type_83 (by decide) ?_
            refine jv_putI (q := 105) G dX8_type_102 fl_X8_122 rfl hS.1 rfl ?_
            have hr1 : rs x q h1 (jv_wI h1 x 0 (nI 3)) := rs.rf.wI (nI 3) (Or.inl ⟨rfl, Or.inl rfl⟩)
            have hth : jv_I (jv_wI h1 x 0 (nI 3)) x 0 = (nI 3) := jv_I_self _ _ _ _
            have hR := hr1.R hR
            have hrs := hrs.tr hr1
            generalize jv_wI h1 x 0 (nI 3) = h13 at hth hR hrs ⊢
            obtain ⟨hS, ⟨hn8, hn⟩, ⟨hm12, hm⟩, hD, hV, hCs⟩ := id hR
            have hsc : sc x q h13 h13 := sc.rf
            have hE := (hD k_e (by omega)).2
            refine jv_aload_n (q := 106) G 1 dX8_type_105 rfl rfl rfl ?_
            refine jv_getI (q := 109) G dX8_type_106 fl_X8_122 rfl hS.1 hth rfl ?_
            refine jv_if_leN (q := 112) (tgt := 114) G dX8_type_109 (by decide) rfl (by omega) (fun c14 => ?_) (fun c14 => ?_)
            · omega
            · refine jv_iconst (q := 113) (v := nI 0) G dX8_type_112 (by decide) rfl ?_
              refine jv_iret G hr dX8_type_113 (Nat.le_of_ble_eq_true rfl) (Nat.le_of_ble_eq_true rfl) ?_
              refine pO.no (M := M) hS0 ?_ rfl hth hR hrs
              unfold m_ty; rw [m_op_yes zke hse]; unfold m_tyG
              simp only [*, if_true, if_false, Bool.false_eq_true, reduceIte, Bool.and_true, Bool.and_false, Bool.true_and, Bool.false_and, Bool.not_true, Bool.not_false, Bool.true_or, Bool.or_true, Bool.false_or, Option.isNone_some, Option.isNone_none, decide_true, decide_false]
          · omega
        · refine jv_iload_n (q := 50) G 3 dX8_type_49 rfl rfl rfl ?_
          refine jv_if_eqB (q := 53) (tgt := 59) G dX8_type_50 (by decide) rfl (fun c15 => ?_) (fun c15 => ?_)
          · subst c15
            refine jv_iconst (q := 60) (v := nI 1) G dX8_type_59 (by decide) rfl ?_
            refine jv_goto (q := 64) G dX8_type_60 (by decide) ?_
            refine jv_istore (q := 66) (lo' := [(8, .int (nI 1)), (0, .ref x), (1, .int (nI k_e)), (2, .int n), (3, .int (jv_bI false)), (4, .int (jv_bI a)), (5, .int p), (6, .int (jv_bI b)), (7, .int s)]) G dX8_type_64 (by decide) rfl rfl ?_
            refine jv_aload_n (q := 67) G 1 dX8_type_66 rfl rfl rfl ?_
            refine jv_iload (q := 69) G 0 dX8_type_67 rfl rfl ?_
            refine jv_if_eqN (q := 72) (tgt := 82) G dX8_type_69 (by decide) rfl (by omega) (fun c16 => ?_) (fun c16 => ?_)
            · omega
            · refine jv_aload_n (q := 73) G 1 dX8_type_72 rfl rfl rfl ?_
              refine jv_iload_n (q := 74) G 2 dX8_type_73 rfl rfl rfl ?_
              refine jv_iload_n (q := 75) G 3 dX8_type_74 rfl rfl rfl ?_
              refine jv_callV_I (q := 78) (h1 := h1) (As := [.int (nI k_e), .int n]) (rest := [.ref x]) (ce' := 0) (sl' := 0) (r := jv_oN ((m_at (ma_t M k_e) n).map (fun k => 10 * k_e + k))) G Z ml_X8_151 (r_at hlt (hsc.S hS) (by omega) (hsc.E hS hE)) hS.1 dX8_type_75 rfl (by decide) (by decide) (by decide) (by decide) (Nat.le_of_ble_eq_true rfl) rfl rfl rfl rfl ?_
              rcases Option.eq_none_or_eq_some (m_at (ma_t M k_e) n) with hk19 | ⟨k17, hk19⟩
              · refine jv_topI (y := (-1)) (by rw [hk19]; rfl) ?_
                refine jv_iconst (q := 79) (v := (-1)) G dX8_type_78 (by decide) rfl ?_
                refine jv_icmp_eq (q := 82) (tgt := 86) G dX8_type_79 (by decide) rfl (fun c20 => ?_) (fun c20 => ?_)
                · refine jv_aload_n (q := 87) G 1 dX8_type_86 rfl rfl rfl ?_
                  refine jv_getQ (q := 90) G dX8_type_87 fl_X8_13 rfl hS.1 (rf_p3 hS) rfl ?_
                  refine jv_iload_n (q := 91) G 2 dX8_type_90 rfl rfl rfl ?_
                  refine jv_iald (q := 92) G dX8_type_91 (rf_a3 hS) rfl (by omega) (by decide) (hD k_e (by omega)).2.1 rfl ?_
                  refine jv_bipush (q := 94) (v := nI 10) G dX8_type_92 (by decide) rfl ?_
                  refine jv_icmp_neN (q := 97) (tgt := 101) G dX8_type_94 (by decide) rfl (by omega) (by omega) (fun c21 => ?_) (fun c21 => ?_)
                  · refine jv_iconst (q := 102) (v := nI 0) G dX8_type_101 (by decide) rfl ?_
                    refine jv_putI (q := 105) G dX8_type_102 fl_X8_122 rfl hS.1 rfl ?_
                    have hr1 : rs x q h1 (jv_wI h1 x 0 (nI 0)) := rs.rf.wI (nI 0) (Or.inl ⟨rfl, Or.inl rfl⟩)
                    have hth : jv_I (jv_wI h1 x 0 (nI 0)) x 0 = (nI 0) := jv_I_self _ _ _ _
                    have hR := hr1.R hR
                    have hrs := hrs.tr hr1
                    generalize jv_wI h1 x 0 (nI 0) = h22 at hth hR hrs ⊢
                    obtain ⟨hS, ⟨hn8, hn⟩, ⟨hm12, hm⟩, hD, hV, hCs⟩ := id hR
                    have hsc : sc x q h22 h22 := sc.rf
                    have hE := (hD k_e (by omega)).2
                    refine jv_aload_n (q := 106) G 1 dX8_type_105 rfl rfl rfl ?_
                    refine jv_getI (q := 109) G dX8_type_106 fl_X8_122 rfl hS.1 hth rfl ?_
                    refine jv_if_leN (q := 112) (tgt := 114) G dX8_type_109 (by decide) rfl (by omega) (fun c23 => ?_) (fun c23 => ?_)
                    · refine jv_bipush (q := 116) (v := nI 10) G dX8_type_114 (by decide) rfl ?_
                      refine jv_iload_n (q := 117) G 2 dX8_type_116 rfl rfl rfl ?_
                      refine jv_imulN (q := 118) G dX8_type_117 rfl ?_
                      refine jv_aload_n (q := 119) G 1 dX8_type_118 rfl rfl rfl ?_
                      refine jv_getQ (q := 122) G dX8_type_119 fl_X8_13 rfl hS.1 (rf_p3 hS) rfl ?_
                      refine jv_iload_n (q := 123) G 2 dX8_type_122 rfl rfl rfl ?_
                      refine jv_iald (q := 124) G dX8_type_123 (rf_a3 hS) rfl (by omega) (by decide) (hD k_e (by omega)).2.1 rfl ?_
                      refine jv_iaddN (q := 125) G dX8_type_124 rfl ?_
                      refine jv_istore (q := 127) (lo' := [(9, .int (nI ((10 * k_e) + ((ma_t M k_e).length)))), (8, .int (nI 1)), (0, .ref x), (1, .int (nI k_e)), (2, .int n), (3, .int (jv_bI false)), (4, .int (jv_bI a)), (5, .int p), (6, .int (jv_bI b)), (7, .int s)]) G dX8_type_125 (by decide) rfl rfl ?_
                      refine jv_aload_n (q := 128) G 2 dX8_type_127 rfl rfl rfl ?_
                      refine jv_getQ (q := 131) G dX8_type_128 fl_X8_13 rfl hS.1 (rf_p3 hS) rfl ?_
                      refine jv_iload_n (q := 132) G 3 dX8_type_131 rfl rfl rfl ?_
                      refine jv_dup2 (q := 133) G dX8_type_132 rfl rfl rfl ?_
                      refine jv_iald (q := 134) G dX8_type_133 (rf_a3 hS) rfl (by omega) (by decide) (hD k_e (by omega)).2.1 rfl ?_
                      refine jv_iconst (q := 135) (v := nI 1) G dX8_type_134 (by decide) rfl ?_
                      refine jv_iaddN (q := 136) G dX8_type_135 rfl ?_
                      refine jv_iast (q := 137) G dX8_type_136 (rf_a3 hS) rfl (by omega) (by decide) rfl ?_
                      refine jv_aload_n (q := 138) G 2 dX8_type_137 rfl rfl rfl ?_
                      refine jv_getQ (q := 141) G dX8_type_138 fl_X8_17 rfl hS.1 (rf_p4 hS) rfl ?_
                      refine jv_iload (q := 143) G 0 dX8_type_141 rfl rfl ?_
                      refine jv_iload_n (q := 144) G 4 dX8_type_143 rfl rfl rfl ?_
                      refine jv_iast (q := 145) G dX8_type_144 (rf_a4 hS) rfl (by omega) (by decide) rfl ?_
                      refine jv_aload_n (q := 146) G 2 dX8_type_145 rfl rfl rfl ?_
                      refine jv_getQ (q := 149) G dX8_type_146 fl_X8_20 rfl hS.1 (rf_p5 hS) rfl ?_
                      refine jv_iload (q := 151) G 0 dX8_type_149 rfl rfl ?_
                      refine jv_iload_n (q := 152) G 5 dX8_type_151 rfl rfl rfl ?_
                      refine jv_zast (q := 153) G dX8_type_152 (rf_a5 hS) rfl (by omega) (by decide) rfl ?_
                      refine jv_aload_n (q := 154) G 2 dX8_type_153 rfl rfl rfl ?_
                      refine jv_getQ (q := 157) G dX8_type_154 fl_X8_23 rfl hS.1 (rf_p6 hS) rfl ?_
                      refine jv_iload (q := 159) G 0 dX8_type_157 rfl rfl ?_
                      refine jv_iload_n (q := 160) G 5 dX8_type_159 rfl rfl rfl ?_
                      refine jv_if_neB (q := 163) (tgt := 168) G dX8_type_160 (by decide) rfl (fun c24 => ?_) (fun c24 => ?_)
                      · cases c24
                      · refine jv_iload (q := 165) G 6 dX8_type_163 rfl rfl ?_
                        refine jv_if_eqB (q := 168) (tgt := 172) G dX8_type_165 (by decide) rfl (fun c25 => ?_) (fun c25 => ?_)
                        · subst c25
                          refine jv_iconst (q := 173) (v := nI 0) G dX8_type_172 (by decide) rfl ?_
                          refine jv_topI (y := jv_bI false) rfl ?_
                          refine jv_zast (q := 174) G dX8_type_173 (rf_a6 hS) rfl (by omega) (by decide) rfl ?_
                          refine jv_aload_n (q := 175) G 2 dX8_type_174 rfl rfl rfl ?_
                          refine jv_getQ (q := 178) G dX8_type_175 fl_X8_26 rfl hS.1 (rf_p7 hS) rfl ?_
                          refine jv_iload (q := 180) G 0 dX8_type_178 rfl rfl ?_
                          refine jv_iload (q := 182) G 7 dX8_type_180 rfl rfl ?_
                          refine jv_iast (q := 183) G dX8_type_182 (rf_a7 hS) rfl (by omega) (by decide) rfl ?_
                          refine jv_aload_n (q := 184) G 2 dX8_type_183 rfl rfl rfl ?_
                          refine jv_getQ (q := 187) G dX8_type_184 fl_X8_29 rfl hS.1 (rf_p8 hS) rfl ?_
                          refine jv_iload (q := 189) G 0 dX8_type_187 rfl rfl ?_
                          refine jv_iload (q := 191) G 8 dX8_type_189 rfl rfl ?_
                          refine jv_zast (q := 192) G dX8_type_191 (rf_a8 hS) rfl (by omega) (by decide) rfl ?_
                          refine jv_aload_n (q := 193) G 2 dX8_type_192 rfl rfl rfl ?_
                          refine jv_getQ (q := 196) G dX8_type_193 fl_X8_32 rfl hS.1 (rf_p9 hS) rfl ?_
                          refine jv_iload (q := 198) G 0 dX8_type_196 rfl rfl ?_
                          refine jv_iload (q := 200) G 9 dX8_type_198 rfl rfl ?_
                          refine jv_iast (q := 201) G dX8_type_200 (rf_a9 hS) rfl (by omega) (by decide) rfl ?_
                          refine jv_aload_n (q := 202) G 2 dX8_type_201 rfl rfl rfl ?_
                          refine jv_getQ (q := 205) G dX8_type_202 fl_X8_35 rfl hS.1 (rf_p10 hS) rfl ?_
                          refine jv_iload (q := 207) G 0 dX8_type_205 rfl rfl ?_
                          refine jv_iconst (q := 208) (v := nI 0) G dX8_type_207 (by decide) rfl ?_
                          refine jv_iast (q := 209) G dX8_type_208 (rf_a10 hS) rfl (by omega) (by decide) rfl ?_
                          refine jv_aload_n (q := 210) G 2 dX8_type_209 rfl rfl rfl ?_
                          refine jv_getQ (q := 213) G dX8_type_210 fl_X8_41 rfl hS.1 (rf_p12 hS) rfl ?_
                          refine jv_iload (q := 215) G 0 dX8_type_213 rfl rfl ?_
                          refine jv_iconst (q := 216) (v := nI 0) G dX8_type_215 (by decide) rfl ?_
                          refine jv_iast (q := 217) G dX8_type_216 (rf_a12 hS) rfl (by omega) (by decide) rfl ?_
                          refine jv_aload_n (q := 218) G 2 dX8_type_217 rfl rfl rfl ?_
                          refine jv_getQ (q := 221) G dX8_type_218 fl_X8_13 rfl hS.1 (rf_p3 hS) rfl ?_
                          refine jv_iload_n (q := 222) G 3 dX8_type_221 rfl rfl rfl ?_
                          refine jv_iald (q := 223) G dX8_type_222 (rf_a3 hS) rfl (by omega) (by decide) rfl rfl ?_
                          refine jv_iret G hr dX8_type_223 (Nat.le_of_ble_eq_true rfl) (Nat.le_of_ble_eq_true rfl) ?_
                          have hFa := (show FW (w_T1 k_e (ma_t M k_e).length) xcr x q h22 (jv_wI (jv_wI (jv_wI (jv_wI (jv_wI (jv_wI (jv_wI (jv_wI (jv_wI h22 (q 3) k_e (nI (((ma_t M k_e).length) + 1))) (q 4) ((10 * k_e) + ((ma_t M k_e).length)) n) (q 5) ((10 * k_e) + ((ma_t M k_e).length)) (jv_bI false)) (q 6) ((10 * k_e) + ((ma_t M k_e).length)) (jv_bI false)) (q 7) ((10 * k_e) + ((ma_t M k_e).length)) p) (q 8) ((10 * k_e) + ((ma_t M k_e).length)) (jv_bI b)) (q 9) ((10 * k_e) + ((ma_t M k_e).length)) s) (q 10) ((10 * k_e) + ((ma_t M k_e).length)) (nI 0)) (q 12) ((10 * k_e) + ((ma_t M k_e).length)) (nI 0)) from (((((((((FW.rf.wq hS (by decide) rfl (Or.inl ⟨rfl, rfl⟩) _).wq hS (by decide) rfl (Or.inr (Or.inl ⟨by unfold k_t; omega, rfl⟩)) _).wq hS (by decide) rfl (Or.inr (Or.inl ⟨by unfold k_t; omega, rfl⟩)) _).wq hS (by decide) rfl (Or.inr (Or.inl ⟨by unfold k_t; omega, rfl⟩)) _).wq hS (by decide) rfl (Or.inr (Or.inl ⟨by unfold k_t; omega, rfl⟩)) _).wq hS (by decide) rfl (Or.inr (Or.inl ⟨by unfold k_t; omega, rfl⟩)) _).wq hS (by decide) rfl (Or.inr (Or.inl ⟨by unfold k_t; omega, rfl⟩)) _).wq hS (by decide) rfl (Or.inr (Or.inl ⟨by unfold k_t; omega, rfl⟩)) _).wq hS (by decide) rfl (Or.inr (Or.inl ⟨by unfold k_t; omega, rfl⟩)) _))
                          have h10 : (ma_t M k_e).length < 10 := by omega
                          have p3 : jv_I (jv_wI (jv_wI (jv_wI (jv_wI (jv_wI (jv_wI (jv_wI (jv_wI (jv_wI h22 (q 3) k_e (nI (((ma_t M k_e).length) + 1))) (q 4) ((10 * k_e) + ((ma_t M k_e).length)) n) (q 5) ((10 * k_e) + ((ma_t M k_e).length)) (jv_bI false)) (q 6) ((10 * k_e) + ((ma_t M k_e).length)) (jv_bI false)) (q 7) ((10 * k_e) + ((ma_t M k_e).length)) p) (q 8) ((10 * k_e) + ((ma_t M k_e).length)) (jv_bI b)) (q 9) ((10 * k_e) + ((ma_t M k_e).length)) s) (q 10) ((10 * k_e) + ((ma_t M k_e).length)) (nI 0)) (q 12) ((10 * k_e) + ((ma_t M k_e).length)) (nI 0)) (q 3) k_e = nI ((ma_t M k_e).length + 1) := ((((((((((qI_q hS (by decide) rfl (by decide) rfl _ _ _).trans (if_neg (fun e => absurd e.1 (by decide)))).trans ((qI_q hS (by decide) rfl (by decide) rfl _ _ _).trans (if_neg (fun e => absurd e.1 (by decide))))).trans ((qI_q hS (by decide) rfl (by decide) rfl _ _ _).trans (if_neg (fun e => absurd e.1 (by decide))))).trans ((qI_q hS (by decide) rfl (by decide) rfl _ _ _).trans (if_neg (fun e => absurd e.1 (by decide))))).trans ((qI_q hS (by decide) rfl (by decide) rfl _ _ _).trans (if_neg (fun e => absurd e.1 (by decide))))).trans ((qI_q hS (by decide) rfl (by decide) rfl _ _ _).trans (if_neg (fun e => absurd e.1 (by decide))))).trans ((qI_q hS (by decide) rfl (by decide) rfl _ _ _).trans (if_neg (fun e => absurd e.1 (by decide))))).trans ((qI_q hS (by decide) rfl (by decide) rfl _ _ _).trans (if_neg (fun e => absurd e.1 (by decide))))).trans ((qI_q hS (by decide) rfl (by decide) rfl _ _ _).trans (if_pos ⟨rfl, rfl⟩)))
                          have hg : m_tyG n false p s = true := by
                            unfold m_tyG; simp only [*, if_true, if_false, Bool.false_eq_true, reduceIte, Bool.and_true, Bool.and_false, Bool.true_and, Bool.false_and, Bool.not_true, Bool.not_false, Bool.true_or, Bool.or_true, Bool.false_or, Option.isNone_some, Option.isNone_none, decide_true, decide_false]
                          have hT := rf_T.new (q := q) (h := jv_wI (jv_wI (jv_wI (jv_wI (jv_wI (jv_wI (jv_wI (jv_wI (jv_wI h22 (q 3) k_e (nI (((ma_t M k_e).length) + 1))) (q 4) ((10 * k_e) + ((ma_t M k_e).length)) n) (q 5) ((10 * k_e) + ((ma_t M k_e).length)) (jv_bI false)) (q 6) ((10 * k_e) + ((ma_t M k_e).length)) (jv_bI false)) (q 7) ((10 * k_e) + ((ma_t M k_e).length)) p) (q 8) ((10 * k_e) + ((ma_t M k_e).length)) (jv_bI b)) (q 9) ((10 * k_e) + ((ma_t M k_e).length)) s) (q 10) ((10 * k_e) + ((ma_t M k_e).length)) (nI 0)) (q 12) ((10 * k_e) + ((ma_t M k_e).length)) (nI 0)) (j := (10 * k_e) + (ma_t M k_e).length) ((((((((((qI_q hS (by decide) rfl (by decide) rfl _ _ _).trans (if_neg (fun e => absurd e.1 (by decide)))).trans ((qI_q hS (by decide) rfl (by decide) rfl _ _ _).trans (if_neg (fun e => absurd e.1 (by decide))))).trans ((qI_q hS (by decide) rfl (by decide) rfl _ _ _).trans (if_neg (fun e => absurd e.1 (by decide))))).trans ((qI_q hS (by decide) rfl (by decide) rfl _ _ _).trans (if_neg (fun e => absurd e.1 (by decide))))).trans ((qI_q hS (by decide) rfl (by decide) rfl _ _ _).trans (if_neg (fun e => absurd e.1 (by decide))))).trans ((qI_q hS (by decide) rfl (by decide) rfl _ _ _).trans (if_neg (fun e => absurd e.1 (by decide))))).trans ((qI_q hS (by decide) rfl (by decide) rfl _ _ _).trans (if_neg (fun e => absurd e.1 (by decide))))).trans ((qI_q hS (by decide) rfl (by decide) rfl _ _ _).trans (if_neg (fun e => by have := e.2; omega)))).trans ((qI_q hS (by decide) rfl (by decide) rfl _ _ _).trans (if_neg (fun e => absurd e.1 (by decide))))) ((((((((((qI_q hS (by decide) rfl (by decide) rfl _ _ _).trans (if_neg (fun e => absurd e.1 (by decide)))).trans ((qI_q hS (by decide) rfl (by decide) rfl _ _ _).trans (if_neg (fun e => absurd e.1 (by decide))))).trans ((qI_q hS (by decide) rfl (by decide) rfl _ _ _).trans (if_neg (fun e => absurd e.1 (by decide))))).trans ((qI_q hS (by decide) rfl (by decide) rfl _ _ _).trans (if_neg (fun e => absurd e.1 (by decide))))).trans ((qI_q hS (by decide) rfl (by decide) rfl _ _ _).trans (if_neg (fun e => absurd e.1 (by decide))))).trans ((qI_q hS (by decide) rfl (by decide) rfl _ _ _).trans (if_neg (fun e => absurd e.1 (by decide))))).trans ((qI_q hS (by decide) rfl (by decide) rfl _ _ _).trans (if_neg (fun e => by have := e.2; omega)))).trans ((qI_q hS (by decide) rfl (by decide) rfl _ _ _).trans (if_neg (fun e => absurd e.1 (by decide))))).trans ((qI_q hS (by decide) rfl (by decide) rfl _ _ _).trans (if_neg (fun e => absurd e.1 (by decide))))) ((((((((((qI_q hS (by decide) rfl (by decide) rfl _ _ _).trans (if_neg (fun e => absurd e.1 (by decide)))).trans ((qI_q hS (by decide) rfl (by decide) rfl _ _ _).trans (if_neg (fun e => absurd e.1 (by decide))))).trans ((qI_q hS (by decide) rfl (by decide) rfl _ _ _).trans (if_neg (fun e => absurd e.1 (by decide))))).trans ((qI_q hS (by decide) rfl (by decide) rfl _ _ _).trans (if_neg (fun e => absurd e.1 (by decide))))).trans ((qI_q hS (by decide) rfl (by decide) rfl _ _ _).trans (if_neg (fun e => absurd e.1 (by decide))))).trans ((qI_q hS (by decide) rfl (by decide) rfl _ _ _).trans (if_neg (fun e => by have := e.2; omega)))).trans ((qI_q hS (by decide) rfl (by decide) rfl _ _ _).trans (if_neg (fun e => absurd e.1 (by decide))))).trans ((qI_q hS (by decide) rfl (by decide) rfl _ _ _).trans (if_neg (fun e => absurd e.1 (by decide))))).trans ((qI_q hS (by decide) rfl (by decide) rfl _ _ _).trans (if_neg (fun e => absurd e.1 (by decide))))) ((((((((((qI_q hS (by decide) rfl (by decide) rfl _ _ _).trans (if_neg (fun e => absurd e.1 (by decide)))).trans ((qI_q hS (by decide) rfl (by decide) rfl _ _ _).trans (if_neg (fun e => absurd e.1 (by decide))))).trans ((qI_q hS (by decide) rfl (by decide) rfl _ _ _).trans (if_neg (fun e => absurd e.1 (by decide))))).trans ((qI_q hS (by decide) rfl (by decide) rfl _ _ _).trans (if_neg (fun e => absurd e.1 (by decide))))).trans ((qI_q hS (by decide) rfl (by decide) rfl _ _ _).trans (if_neg (fun e => by have := e.2; omega)))).trans ((qI_q hS (by decide) rfl (by decide) rfl _ _ _).trans (if_neg (fun e => absurd e.1 (by decide))))).trans ((qI_q hS (by decide) rfl (by decide) rfl _ _ _).trans (if_neg (fun e => absurd e.1 (by decide))))).trans ((qI_q hS (by decide) rfl (by decide) rfl _ _ _).trans (if_neg (fun e => absurd e.1 (by decide))))).trans ((qI_q hS (by decide) rfl (by decide) rfl _ _ _).trans (if_neg (fun e => absurd e.1 (by decide))))) ((((((((((qI_q hS (by decide) rfl (by decide) rfl _ _ _).trans (if_neg (fun e => absurd e.1 (by decide)))).trans ((qI_q hS (by decide) rfl (by decide) rfl _ _ _).trans (if_neg (fun e => absurd e.1 (by decide))))).trans ((qI_q hS (by decide) rfl (by decide) rfl _ _ _).trans (if_neg (fun e => absurd e.1 (by decide))))).trans ((qI_q hS (by decide) rfl (by decide) rfl _ _ _).trans (if_neg (fun e => by have := e.2; omega)))).trans ((qI_q hS (by decide) rfl (by decide) rfl _ _ _).trans (if_neg (fun e => absurd e.1 (by decide))))).trans ((qI_q hS (by decide) rfl (by decide) rfl _ _ _).trans (if_neg (fun e => absurd e.1 (by decide))))).trans ((qI_q hS (by decide) rfl (by decide) rfl _ _ _).trans (if_neg (fun e => absurd e.1 (by decide))))).trans ((qI_q hS (by decide) rfl (by decide) rfl _ _ _).trans (if_neg (fun e => absurd e.1 (by decide))))).trans ((qI_q hS (by decide) rfl (by decide) rfl _ _ _).trans (if_neg (fun e => absurd e.1 (by decide))))) ((((((((((qI_q hS (by decide) rfl (by decide) rfl _ _ _).trans (if_neg (fun e => absurd e.1 (by decide)))).trans ((qI_q hS (by decide) rfl (by decide) rfl _ _ _).trans (if_neg (fun e => absurd e.1 (by decide))))).trans ((qI_q hS (by decide) rfl (by decide) rfl _ _ _).trans (if_neg (fun e => by have := e.2; omega)))).trans ((qI_q hS (by decide) rfl (by decide) rfl _ _ _).trans (if_neg (fun e => absurd e.1 (by decide))))).trans ((qI_q hS (by decide) rfl (by decide) rfl _ _ _).trans (if_neg (fun e => absurd e.1 (by decide))))).trans ((qI_q hS (by decide) rfl (by decide) rfl _ _ _).trans (if_neg (fun e => absurd e.1 (by decide))))).trans ((qI_q hS (by decide) rfl (by decide) rfl _ _ _).trans (if_neg (fun e => absurd e.1 (by decide))))).trans ((qI_q hS (by decide) rfl (by decide) rfl _ _ _).trans (if_neg (fun e => absurd e.1 (by decide))))).trans ((qI_q hS (by decide) rfl (by decide) rfl _ _ _).trans (if_neg (fun e => absurd e.1 (by decide))))) ((((((((((qI_q hS (by decide) rfl (by decide) rfl _ _ _).trans (if_neg (fun e => absurd e.1 (by decide)))).trans ((qI_q hS (by decide) rfl (by decide) rfl _ _ _).trans (if_neg (fun e => by have := e.2; omega)))).trans ((qI_q hS (by decide) rfl (by decide) rfl _ _ _).trans (if_neg (fun e => absurd e.1 (by decide))))).trans ((qI_q hS (by decide) rfl (by decide) rfl _ _ _).trans (if_neg (fun e => absurd e.1 (by decide))))).trans ((qI_q hS (by decide) rfl (by decide) rfl _ _ _).trans (if_neg (fun e => absurd e.1 (by decide))))).trans ((qI_q hS (by decide) rfl (by decide) rfl _ _ _).trans (if_neg (fun e => absurd e.1 (by decide))))).trans ((qI_q hS (by decide) rfl (by decide) rfl _ _ _).trans (if_neg (fun e => absurd e.1 (by decide))))).trans ((qI_q hS (by decide) rfl (by decide) rfl _ _ _).trans (if_neg (fun e => absurd e.1 (by decide))))).trans ((qI_q hS (by decide) rfl (by decide) rfl _ _ _).trans (if_neg (fun e => absurd e.1 (by decide))))) ((((((((((qI_q hS (by decide) rfl (by decide) rfl _ _ _).trans (if_neg (fun e => by have := e.2; omega))).trans ((qI_q hS (by decide) rfl (by decide) rfl _ _ _).trans (if_neg (fun e => absurd e.1 (by decide))))).trans ((qI_q hS (by decide) rfl (by decide) rfl _ _ _).trans (if_neg (fun e => absurd e.1 (by decide))))).trans ((qI_q hS (by decide) rfl (by decide) rfl _ _ _).trans (if_neg (fun e => absurd e.1 (by decide))))).trans ((qI_q hS (by decide) rfl (by decide) rfl _ _ _).trans (if_neg (fun e => absurd e.1 (by decide))))).trans ((qI_q hS (by decide) rfl (by decide) rfl _ _ _).trans (if_neg (fun e => absurd e.1 (by decide))))).trans ((qI_q hS (by decide) rfl (by decide) rfl _ _ _).trans (if_neg (fun e => absurd e.1 (by decide))))).trans ((qI_q hS (by decide) rfl (by decide) rfl _ _ _).trans (if_neg (fun e => absurd e.1 (by decide))))).trans ((qI_q hS (by decide) rfl (by decide) rfl _ _ _).trans (if_neg (fun e => absurd e.1 (by decide))))) hg
                          refine pO.mk (th := 0) (r := nI ((ma_t M k_e).length + 1)) (M' := m_put M k_e (false, (ma_t M k_e) ++ [_])) ?_ (congrArg (fun z => some (Value.int z)) p3) ((((((((((xI_q hS (by decide) rfl _ _ _).trans (xI_q hS (by decide) rfl _ _ _)).trans (xI_q hS (by decide) rfl _ _ _)).trans (xI_q hS (by decide) rfl _ _ _)).trans (xI_q hS (by decide) rfl _ _ _)).trans (xI_q hS (by decide) rfl _ _ _)).trans (xI_q hS (by decide) rfl _ _ _)).trans (xI_q hS (by decide) rfl _ _ _)).trans (xI_q hS (by decide) rfl _ _ _)).trans hth) (rf_R.ed hR hke hse (hFa.mono (fun k j w => w_T1_E h10 w) (fun _ z => z)) (((((((((((qI_q hS (by decide) rfl (by decide) rfl _ _ _).trans (if_neg (fun e => absurd e.1 (by decide)))).trans ((qI_q hS (by decide) rfl (by decide) rfl _ _ _).trans (if_neg (fun e => absurd e.1 (by decide))))).trans ((qI_q hS (by decide) rfl (by decide) rfl _ _ _).trans (if_neg (fun e => absurd e.1 (by decide))))).trans ((qI_q hS (by decide) rfl (by decide) rfl _ _ _).trans (if_neg (fun e => absurd e.1 (by decide))))).trans ((qI_q hS (by decide) rfl (by decide) rfl _ _ _).trans (if_neg (fun e => absurd e.1 (by decide))))).trans ((qI_q hS (by decide) rfl (by decide) rfl _ _ _).trans (if_neg (fun e => absurd e.1 (by decide))))).trans ((qI_q hS (by decide) rfl (by decide) rfl _ _ _).trans (if_neg (fun e => absurd e.1 (by decide))))).trans ((qI_q hS (by decide) rfl (by decide) rfl _ _ _).trans (if_neg (fun e => absurd e.1 (by decide))))).trans ((qI_q hS (by decide) rfl (by decide) rfl _ _ _).trans (if_neg (fun e => absurd e.1 (by decide))))).trans ((hD k_e (by omega)).1.trans (by rw [hse]))) (hE.snoc hFa p3 h10 hT) (fun z => by cases z)) ((hrs.FW hS0).fr.tr hFa.fr)
                          unfold m_ty
                          rw [m_op_yes zke hse, hg]
                          simp only [*, if_true, if_false, Bool.false_eq_true, reduceIte, Bool.and_true, Bool.and_false, Bool.true_and, Bool.false_and, Bool.not_true, Bool.not_false, Bool.true_or, Bool.or_true, Bool.false_or, Option.isNone_some, Option.isNone_none, decide_true, decide_false]
                          first | done | rfl
                        · subst c25
                          refine jv_iconst (q := 169) (v := nI 1) G dX8_type_168 (by decide) rfl ?_
                          refine jv_goto (q := 173) G dX8_type_169 (by decide) ?_
                          refine jv_topI (y := jv_bI true) rfl ?_
                          refine jv_zast (q := 174) G dX8_type_173 (rf_a6 hS) rfl (by omega) (by decide) rfl ?_
                          refine jv_aload_n (q := 175) G 2 dX8_type_174 rfl rfl rfl ?_
                          refine jv_getQ (q := 178) G dX8_type_175 fl_X8_26 rfl hS.1 (rf_p7 hS) rfl ?_
                          refine jv_iload (q := 180) G 0 dX8_type_178 rfl rfl ?_
                          refine jv_iload (q := 182) G 7 dX8_type_180 rfl rfl ?_
                          refine jv_iast (q := 183) G dX8_type_182 (rf_a7 hS) rfl (by omega) (by decide) rfl ?_
                          refine jv_aload_n (q := 184) G 2 dX8_type_183 rfl rfl rfl ?_
                          refine jv_getQ (q := 187) G dX8_type_184 fl_X8_29 rfl hS.1 (rf_p8 hS) rfl ?_
                          refine jv_iload (q := 189) G 0 dX8_type_187 rfl rfl ?_
                          refine jv_iload (q := 191) G 8 dX8_type_189 rfl rfl ?_
                          refine jv_zast (q := 192) G dX8_type_191 (rf_a8 hS) rfl (by omega) (by decide) rfl ?_
                          refine jv_aload_n (q := 193) G 2 dX8_type_192 rfl rfl rfl ?_
                          refine jv_getQ (q := 196) G dX8_type_193 fl_X8_32 rfl hS.1 (rf_p9 hS) rfl ?_
                          refine jv_iload (q := 198) G 0 dX8_type_196 rfl rfl ?_
                          refine jv_iload (q := 200) G 9 dX8_type_198 rfl rfl ?_
                          refine jv_iast (q := 201) G dX8_type_200 (rf_a9 hS) rfl (by omega) (by decide) rfl ?_
                          refine jv_aload_n (q := 202) G 2 dX8_type_201 rfl rfl rfl ?_
                          refine jv_getQ (q := 205) G dX8_type_202 fl_X8_35 rfl hS.1 (rf_p10 hS) rfl ?_
                          refine jv_iload (q := 207) G 0 dX8_type_205 rfl rfl ?_
                          refine jv_iconst (q := 208) (v := nI 0) G dX8_type_207 (by decide) rfl ?_
                          refine jv_iast (q := 209) G dX8_type_208 (rf_a10 hS) rfl (by omega) (by decide) rfl ?_
                          refine jv_aload_n (q := 210) G 2 dX8_type_209 rfl rfl rfl ?_
                          refine jv_getQ (q := 213) G dX8_type_210 fl_X8_41 rfl hS.1 (rf_p12 hS) rfl ?_
                          refine jv_iload (q := 215) G 0 dX8_type_213 rfl rfl ?_
                          refine jv_iconst (q := 216) (v := nI 0) G dX8_type_215 (by decide) rfl ?_
                          refine jv_iast (q := 217) G dX8_type_216 (rf_a12 hS) rfl (by omega) (by decide) rfl ?_
                          refine jv_aload_n (q := 218) G 2 dX8_type_217 rfl rfl rfl ?_
                          refine jv_getQ (q := 221) G dX8_type_218 fl_X8_13 rfl hS.1 (rf_p3 hS) rfl ?_
                          refine jv_iload_n (q := 222) G 3 dX8_type_221 rfl rfl rfl ?_
                          refine jv_iald (q := 223) G dX8_type_222 (rf_a3 hS) rfl (by omega) (by decide) rfl rfl ?_
                          refine jv_iret G hr dX8_type_223 (Nat.le_of_ble_eq_true rfl) (Nat.le_of_ble_eq_true rfl) ?_
                          have hFa := (show FW (w_T1 k_e (ma_t M k_e).length) xcr x q h22 (jv_wI (jv_wI (jv_wI (jv_wI (jv_wI (jv_wI (jv_wI (jv_wI (jv_wI h22 (q 3) k_e (nI (((ma_t M k_e).length) + 1))) (q 4) ((10 * k_e) + ((ma_t M k_e).length)) n) (q 5) ((10 * k_e) + ((ma_t M k_e).length)) (jv_bI false)) (q 6) ((10 * k_e) + ((ma_t M k_e).length)) (jv_bI true)) (q 7) ((10 * k_e) + ((ma_t M k_e).length)) p) (q 8) ((10 * k_e) + ((ma_t M k_e).length)) (jv_bI b)) (q 9) ((10 * k_e) + ((ma_t M k_e).length)) s) (q 10) ((10 * k_e) + ((ma_t M k_e).length)) (nI 0)) (q 12) ((10 * k_e) + ((ma_t M k_e).length)) (nI 0)) from (((((((((FW.rf.wq hS (by decide) rfl (Or.inl ⟨rfl, rfl⟩) _).wq hS (by decide) rfl (Or.inr (Or.inl ⟨by unfold k_t; omega, rfl⟩)) _).wq hS (by decide) rfl (Or.inr (Or.inl ⟨by unfold k_t; omega, rfl⟩)) _).wq hS (by decide) rfl (Or.inr (Or.inl ⟨by unfold k_t; omega, rfl⟩)) _).wq hS (by decide) rfl (Or.inr (Or.inl ⟨by unfold k_t; omega, rfl⟩)) _).wq hS (by decide) rfl (Or.inr (Or.inl ⟨by unfold k_t; omega, rfl⟩)) _).wq hS (by decide) rfl (Or.inr (Or.inl ⟨by unfold k_t; omega, rfl⟩)) _).wq hS (by decide) rfl (Or.inr (Or.inl ⟨by unfold k_t; omega, rfl⟩)) _).wq hS (by decide) rfl (Or.inr (Or.inl ⟨by unfold k_t; omega, rfl⟩)) _))
                          have h10 : (ma_t M k_e).length < 10 := by omega
                          have p3 : jv_I (jv_wI (jv_wI (jv_wI (jv_wI (jv_wI (jv_wI (jv_wI (jv_wI (jv_wI h22 (q 3) k_e (nI (((ma_t M k_e).length) + 1))) (q 4) ((10 * k_e) + ((ma_t M k_e).length)) n) (q 5) ((10 * k_e) + ((ma_t M k_e).length)) (jv_bI false)) (q 6) ((10 * k_e) + ((ma_t M k_e).length)) (jv_bI true)) (q 7) ((10 * k_e) + ((ma_t M k_e).length)) p) (q 8) ((10 * k_e) + ((ma_t M k_e).length)) (jv_bI b)) (q 9) ((10 * k_e) + ((ma_t M k_e).length)) s) (q 10) ((10 * k_e) + ((ma_t M k_e).length)) (nI 0)) (q 12) ((10 * k_e) + ((ma_t M k_e).length)) (nI 0)) (q 3) k_e = nI ((ma_t M k_e).length + 1) := ((((((((((qI_q hS (by decide) rfl (by decide) rfl _ _ _).trans (if_neg (fun e => absurd e.1 (by decide)))).trans ((qI_q hS (by decide) rfl (by decide) rfl _ _ _).trans (if_neg (fun e => absurd e.1 (by decide))))).trans ((qI_q hS (by decide) rfl (by decide) rfl _ _ _).trans (if_neg (fun e => absurd e.1 (by decide))))).trans ((qI_q hS (by decide) rfl (by decide) rfl _ _ _).trans (if_neg (fun e => absurd e.1 (by decide))))).trans ((qI_q hS (by decide) rfl (by decide) rfl _ _ _).trans (if_neg (fun e => absurd e.1 (by decide))))).trans ((qI_q hS (by decide) rfl (by decide) rfl _ _ _).trans (if_neg (fun e => absurd e.1 (by decide))))).trans ((qI_q hS (by decide) rfl (by decide) rfl _ _ _).trans (if_neg (fun e => absurd e.1 (by decide))))).trans ((qI_q hS (by decide) rfl (by decide) rfl _ _ _).trans (if_neg (fun e => absurd e.1 (by decide))))).trans ((qI_q hS (by decide) rfl (by decide) rfl _ _ _).trans (if_pos ⟨rfl, rfl⟩)))
                          have hg : m_tyG n false p s = true := by
                            unfold m_tyG; simp only [*, if_true, if_false, Bool.false_eq_true, reduceIte, Bool.and_true, Bool.and_false, Bool.true_and, Bool.false_and, Bool.not_true, Bool.not_false, Bool.true_or, Bool.or_true, Bool.false_or, Option.isNone_some, Option.isNone_none, decide_true, decide_false]
                          have hT := rf_T.new (q := q) (h := jv_wI (jv_wI (jv_wI (jv_wI (jv_wI (jv_wI (jv_wI (jv_wI (jv_wI h22 (q 3) k_e (nI (((ma_t M k_e).length) + 1))) (q 4) ((10 * k_e) + ((ma_t M k_e).length)) n) (q 5) ((10 * k_e) + ((ma_t M k_e).length)) (jv_bI false)) (q 6) ((10 * k_e) + ((ma_t M k_e).length)) (jv_bI true)) (q 7) ((10 * k_e) + ((ma_t M k_e).length)) p) (q 8) ((10 * k_e) + ((ma_t M k_e).length)) (jv_bI b)) (q 9) ((10 * k_e) + ((ma_t M k_e).length)) s) (q 10) ((10 * k_e) + ((ma_t M k_e).length)) (nI 0)) (q 12) ((10 * k_e) + ((ma_t M k_e).length)) (nI 0)) (j := (10 * k_e) + (ma_t M k_e).length) ((((((((((qI_q hS (by decide) rfl (by decide) rfl _ _ _).trans (if_neg (fun e => absurd e.1 (by decide)))).trans ((qI_q hS (by decide) rfl (by decide) rfl _ _ _).trans (if_neg (fun e => absurd e.1 (by decide))))).trans ((qI_q hS (by decide) rfl (by decide) rfl _ _ _).trans (if_neg (fun e => absurd e.1 (by decide))))).trans ((qI_q hS (by decide) rfl (by decide) rfl _ _ _).trans (if_neg (fun e => absurd e.1 (by decide))))).trans ((qI_q hS (by decide) rfl (by decide) rfl _ _ _).trans (if_neg (fun e => absurd e.1 (by decide))))).trans ((qI_q hS (by decide) rfl (by decide) rfl _ _ _).trans (if_neg (fun e => absurd e.1 (by decide))))).trans ((qI_q hS (by decide) rfl (by decide) rfl _ _ _).trans (if_neg (fun e => absurd e.1 (by decide))))).trans ((qI_q hS (by decide) rfl (by decide) rfl _ _ _).trans (if_neg (fun e => by have := e.2; omega)))).trans ((qI_q hS (by decide) rfl (by decide) rfl _ _ _).trans (if_neg (fun e => absurd e.1 (by decide))))) ((((((((((qI_q hS (by decide) rfl (by decide) rfl _ _ _).trans (if_neg (fun e => absurd e.1 (by decide)))).trans ((qI_q hS (by decide) rfl (by decide) rfl _ _ _).trans (if_neg (fun e => absurd e.1 (by decide))))).trans ((qI_q hS (by decide) rfl (by decide) rfl _ _ _).trans (if_neg (fun e => absurd e.1 (by decide))))).trans ((qI_q hS (by decide) rfl (by decide) rfl _ _ _).trans (if_neg (fun e => absurd e.1 (by decide))))).trans ((qI_q hS (by decide) rfl (by decide) rfl _ _ _).trans (if_neg (fun e => absurd e.1 (by decide))))).trans ((qI_q hS (by decide) rfl (by decide) rfl _ _ _).trans (if_neg (fun e => absurd e.1 (by decide))))).trans ((qI_q hS (by decide) rfl (by decide) rfl _ _ _).trans (if_neg (fun e => by have := e.2; omega)))).trans ((qI_q hS (by decide) rfl (by decide) rfl _ _ _).trans (if_neg (fun e => absurd e.1 (by decide))))).trans ((qI_q hS (by decide) rfl (by decide) rfl _ _ _).trans (if_neg (fun e => absurd e.1 (by decide))))) ((((((((((qI_q hS (by decide) rfl (by decide) rfl _ _ _).trans (if_neg (fun e => absurd e.1 (by decide)))).trans ((qI_q hS (by decide) rfl (by decide) rfl _ _ _).trans (if_neg (fun e => absurd e.1 (by decide))))).trans ((qI_q hS (by decide) rfl (by decide) rfl _ _ _).trans (if_neg (fun e => absurd e.1 (by decide))))).trans ((qI_q hS (by decide) rfl (by decide) rfl _ _ _).trans (if_neg (fun e => absurd e.1 (by decide))))).trans ((qI_q hS (by decide) rfl (by decide) rfl _ _ _).trans (if_neg (fun e => absurd e.1 (by decide))))).trans ((qI_q hS (by decide) rfl (by decide) rfl _ _ _).trans (if_neg (fun e => by have := e.2; omega)))).trans ((qI_q hS (by decide) rfl (by decide) rfl _ _ _).trans (if_neg (fun e => absurd e.1 (by decide))))).trans ((qI_q hS (by decide) rfl (by decide) rfl _ _ _).trans (if_neg (fun e => absurd e.1 (by decide))))).trans ((qI_q hS (by decide) rfl (by decide) rfl _ _ _).trans (if_neg (fun e => absurd e.1 (by decide))))) ((((((((((qI_q hS (by decide) rfl (by decide) rfl _ _ _).trans (if_neg (fun e => absurd e.1 (by decide)))).trans ((qI_q hS (by decide) rfl (by decide) rfl _ _ _).trans (if_neg (fun e => absurd e.1 (by decide))))).trans ((qI_q hS (by decide) rfl (by decide) rfl _ _ _).trans (if_neg (fun e => absurd e.1 (by decide))))).trans ((qI_q hS (by decide) rfl (by decide) rfl _ _ _).trans (if_neg (fun e => absurd e.1 (by decide))))).trans ((qI_q hS (by decide) rfl (by decide) rfl _ _ _).trans (if_neg (fun e => by have := e.2; omega)))).trans ((qI_q hS (by decide) rfl (by decide) rfl _ _ _).trans (if_neg (fun e => absurd e.1 (by decide))))).trans ((qI_q hS (by decide) rfl (by decide) rfl _ _ _).trans (if_neg (fun e => absurd e.1 (by decide))))).trans ((qI_q hS (by decide) rfl (by decide) rfl _ _ _).trans (if_neg (fun e => absurd e.1 (by decide))))).trans ((qI_q hS (by decide) rfl (by decide) rfl _ _ _).trans (if_neg (fun e => absurd e.1 (by decide))))) ((((((((((qI_q hS (by decide) rfl (by decide) rfl _ _ _).trans (if_neg (fun e => absurd e.1 (by decide)))).trans ((qI_q hS (by decide) rfl (by decide) rfl _ _ _).trans (if_neg (fun e => absurd e.1 (by decide))))).trans ((qI_q hS (by decide) rfl (by decide) rfl _ _ _).trans (if_neg (fun e => absurd e.1 (by decide))))).trans ((qI_q hS (by decide) rfl (by decide) rfl _ _ _).trans (if_neg (fun e => by have := e.2; omega)))).trans ((qI_q hS (by decide) rfl (by decide) rfl _ _ _).trans (if_neg (fun e => absurd e.1 (by decide))))).trans ((qI_q hS (by decide) rfl (by decide) rfl _ _ _).trans (if_neg (fun e => absurd e.1 (by decide))))).trans ((qI_q hS (by decide) rfl (by decide) rfl _ _ _).trans (if_neg (fun e => absurd e.1 (by decide))))).trans ((qI_q hS (by decide) rfl (by decide) rfl _ _ _).trans (if_neg (fun e => absurd e.1 (by decide))))).trans ((qI_q hS (by decide) rfl (by decide) rfl _ _ _).trans (if_neg (fun e => absurd e.1 (by decide))))) ((((((((((qI_q hS (by decide) rfl (by decide) rfl _ _ _).trans (if_neg (fun e => absurd e.1 (by decide)))).trans ((qI_q hS (by decide) rfl (by decide) rfl _ _ _).trans (if_neg (fun e => absurd e.1 (by decide))))).trans ((qI_q hS (by decide) rfl (by decide) rfl _ _ _).trans (if_neg (fun e => by have := e.2; omega)))).trans ((qI_q hS (by decide) rfl (by decide) rfl _ _ _).trans (if_neg (fun e => absurd e.1 (by decide))))).trans ((qI_q hS (by decide) rfl (by decide) rfl _ _ _).trans (if_neg (fun e => absurd e.1 (by decide))))).trans ((qI_q hS (by decide) rfl (by decide) rfl _ _ _).trans (if_neg (fun e => absurd e.1 (by decide))))).trans ((qI_q hS (by decide) rfl (by decide) rfl _ _ _).trans (if_neg (fun e => absurd e.1 (by decide))))).trans ((qI_q hS (by decide) rfl (by decide) rfl _ _ _).trans (if_neg (fun e => absurd e.1 (by decide))))).trans ((qI_q hS (by decide) rfl (by decide) rfl _ _ _).trans (if_neg (fun e => absurd e.1 (by decide))))) ((((((((((qI_q hS (by decide) rfl (by decide) rfl _ _ _).trans (if_neg (fun e => absurd e.1 (by decide)))).trans ((qI_q hS (by decide) rfl (by decide) rfl _ _ _).trans (if_neg (fun e => by have := e.2; omega)))).trans ((qI_q hS (by decide) rfl (by decide) rfl _ _ _).trans (if_neg (fun e => absurd e.1 (by decide))))).trans ((qI_q hS (by decide) rfl (by decide) rfl _ _ _).trans (if_neg (fun e => absurd e.1 (by decide))))).trans ((qI_q hS (by decide) rfl (by decide) rfl _ _ _).trans (if_neg (fun e => absurd e.1 (by decide))))).trans ((qI_q hS (by decide) rfl (by decide) rfl _ _ _).trans (if_neg (fun e => absurd e.1 (by decide))))).trans ((qI_q hS (by decide) rfl (by decide) rfl _ _ _).trans (if_neg (fun e => absurd e.1 (by decide))))).trans ((qI_q hS (by decide) rfl (by decide) rfl _ _ _).trans (if_neg (fun e => absurd e.1 (by decide))))).trans ((qI_q hS (by decide) rfl (by decide) rfl _ _ _).trans (if_neg (fun e => absurd e.1 (by decide))))) ((((((((((qI_q hS (by decide) rfl (by decide) rfl _ _ _).trans (if_neg (fun e => by have := e.2; omega))).trans ((qI_q hS (by decide) rfl (by decide) rfl _ _ _).trans (if_neg (fun e => absurd e.1 (by decide))))).trans ((qI_q hS (by decide) rfl (by decide) rfl _ _ _).trans (if_neg (fun e => absurd e.1 (by decide))))).trans ((qI_q hS (by decide) rfl (by decide) rfl _ _ _).trans (if_neg (fun e => absurd e.1 (by decide))))).trans ((qI_q hS (by decide) rfl (by decide) rfl _ _ _).trans (if_neg (fun e => absurd e.1 (by decide))))).trans ((qI_q hS (by decide) rfl (by decide) rfl _ _ _).trans (if_neg (fun e => absurd e.1 (by decide))))).trans ((qI_q hS (by decide) rfl (by decide) rfl _ _ _).trans (if_neg (fun e => absurd e.1 (by decide))))).trans ((qI_q hS (by decide) rfl (by decide) rfl _ _ _).trans (if_neg (fun e => absurd e.1 (by decide))))).trans ((qI_q hS (by decide) rfl (by decide) rfl _ _ _).trans (if_neg (fun e => absurd e.1 (by decide))))) hg
                          refine pO.mk (th := 0) (r := nI ((ma_t M k_e).length + 1)) (M' := m_put M k_e (false, (ma_t M k_e) ++ [_])) ?_ (congrArg (fun z => some (Value.int z)) p3) ((((((((((xI_q hS (by decide) rfl _ _ _).trans (xI_q hS (by decide) rfl _ _ _)).trans (xI_q hS (by decide) rfl _ _ _)).trans (xI_q hS (by decide) rfl _ _ _)).trans (xI_q hS (by decide) rfl _ _ _)).trans (xI_q hS (by decide) rfl _ _ _)).trans (xI_q hS (by decide) rfl _ _ _)).trans (xI_q hS (by decide) rfl _ _ _)).trans (xI_q hS (by decide) rfl _ _ _)).trans hth) (rf_R.ed hR hke hse (hFa.mono (fun k j w => w_T1_E h10 w) (fun _ z => z)) (((((((((((qI_q hS (by decide) rfl (by decide) rfl _ _ _).trans (if_neg (fun e => absurd e.1 (by decide)))).trans ((qI_q hS (by decide) rfl (by decide) rfl _ _ _).trans (if_neg (fun e => absurd e.1 (by decide))))).trans ((qI_q hS (by decide) rfl (by decide) rfl _ _ _).trans (if_neg (fun e => absurd e.1 (by decide))))).trans ((qI_q hS (by decide) rfl (by decide) rfl _ _ _).trans (if_neg (fun e => absurd e.1 (by decide))))).trans ((qI_q hS (by decide) rfl (by decide) rfl _ _ _).trans (if_neg (fun e => absurd e.1 (by decide))))).trans ((qI_q hS (by decide) rfl (by decide) rfl _ _ _).trans (if_neg (fun e => absurd e.1 (by decide))))).trans ((qI_q hS (by decide) rfl (by decide) rfl _ _ _).trans (if_neg (fun e => absurd e.1 (by decide))))).trans ((qI_q hS (by decide) rfl (by decide) rfl _ _ _).trans (if_neg (fun e => absurd e.1 (by decide))))).trans ((qI_q hS (by decide) rfl (by decide) rfl _ _ _).trans (if_neg (fun e => absurd e.1 (by decide))))).trans ((hD k_e (by omega)).1.trans (by rw [hse]))) (hE.snoc hFa p3 h10 hT) (fun z => by cases z)) ((hrs.FW hS0).fr.tr hFa.fr)
                          unfold m_ty
                          rw [m_op_yes zke hse, hg]
                          simp only [*, if_true, if_false, Bool.false_eq_true, reduceIte, Bool.and_true, Bool.and_false, Bool.true_and, Bool.false_and, Bool.not_true, Bool.not_false, Bool.true_or, Bool.or_true, Bool.false_or, Option.isNone_some, Option.isNone_none, decide_true, decide_false]
                          first | done | rfl
                    · omega
                  · refine jv_iconst (q := 98) (v := nI 4) G dX8_type_97 (by decide) rfl ?_
                    refine jv_goto (q := 102) G dX8_type_98 (by decide) ?_
                    refine jv_putI (q := 105) G dX8_type_102 fl_X8_122 rfl hS.1 rfl ?_
                    have hr1 : rs x q h1 (jv_wI h1 x 0 (nI 4)) := rs.rf.wI (nI 4) (Or.inl ⟨rfl, Or.inl rfl⟩)
                    have hth : jv_I (jv_wI h1 x 0 (nI 4)) x 0 = (nI 4) := jv_I_self _ _ _ _
                    have hR := hr1.R hR
                    have hrs := hrs.tr hr1
                    generalize jv_wI h1 x 0 (nI 4) = h26 at hth hR hrs ⊢
                    obtain ⟨hS, ⟨hn8, hn⟩, ⟨hm12, hm⟩, hD, hV, hCs⟩ := id hR
                    have hsc : sc x q h26 h26 := sc.rf
                    have hE := (hD k_e (by omega)).2
                    refine jv_aload_n (q := 106) G 1 dX8_type_105 rfl rfl rfl ?_
                    refine jv_getI (q := 109) G dX8_type_106 fl_X8_122 rfl hS.1 hth rfl ?_
                    refine jv_if_leN (q := 112) (tgt := 114) G dX8_type_109 (by decide) rfl (by omega) (fun c27 => ?_) (fun c27 => ?_)
                    · omega
                    · refine jv_iconst (q := 113) (v := nI 0) G dX8_type_112 (by decide) rfl ?_
                      refine jv_iret G hr dX8_type_113 (Nat.le_of_ble_eq_true rfl) (Nat.le_of_ble_eq_true rfl) ?_
                      refine pO.no (M := M) hS0 ?_ rfl hth hR hrs
                      unfold m_ty; rw [m_op_yes zke hse]; unfold m_tyG
                      simp only [*, if_true, if_false, Bool.false_eq_true, reduceIte, Bool.and_true, Bool.and_false, Bool.true_and, Bool.false_and, Bool.not_true, Bool.not_false, Bool.true_or, Bool.or_true, Bool.false_or, Option.isNone_some, Option.isNone_none, decide_true, decide_false]
                · exact absurd rfl c20
              · refine jv_topI (y := nI (10 * k_e + k17)) (by rw [hk19]; rfl) ?_
                obtain ⟨t18, ht18, nt18, lt18⟩ := m_at_some hk19
                have Tt18 := (hE.2.2 k17 t18 ht18).1
                have Ot18 := (hE.2.2 k17 t18 ht18).2
                have Lt18 := hE.2.1
                have Bt18n := Ot18.1; have Bt18k := Ot18.2.1
                refine jv_iconst (q := 79) (v := (-1)) G dX8_type_78 (by decide) rfl ?_
                refine jv_icmp_eq (q := 82) (tgt := 86) G dX8_type_79 (by decide) rfl (fun c28 => ?_) (fun c28 => ?_)
                · exact absurd c28 (jv_nI_m1 (by omega))
                · refine jv_iconst (q := 83) (v := nI 3) G dX8_type_82 (by decide) rfl ?_
                  refine jv_goto (q := 102) G dX8_type_83 (by decide) ?_
                  refine jv_putI (q := 105) G dX8_type_102 fl_X8_122 rfl hS.1 rfl ?_
                  have hr1 : rs x q h1 (jv_wI h1 x 0 (nI 3)) := rs.rf.wI (nI 3) (Or.inl ⟨rfl, Or.inl rfl⟩)
                  have hth : jv_I (jv_wI h1 x 0 (nI 3)) x 0 = (nI 3) := jv_I_self _ _ _ _
                  have hR := hr1.R hR
                  have hrs := hrs.tr hr1
                  generalize jv_wI h1 x 0 (nI 3) = h29 at hth hR hrs ⊢
                  obtain ⟨hS, ⟨hn8, hn⟩, ⟨hm12, hm⟩, hD, hV, hCs⟩ := id hR
                  have hsc : sc x q h29 h29 := sc.rf
                  have hE := (hD k_e (by omega)).2
                  have Tt18 := (hE.2.2 k17 t18 ht18).1
                  refine jv_aload_n (q := 106) G 1 dX8_type_105 rfl rfl rfl ?_
                  refine jv_getI (q := 109) G dX8_type_106 fl_X8_122 rfl hS.1 hth rfl ?_
                  refine jv_if_leN (q := 112) (tgt := 114) G dX8_type_109 (by decide) rfl (by omega) (fun c30 => ?_) (fun c30 => ?_)
                  · omega
                  · refine jv_iconst (q := 113) (v := nI 0) G dX8_type_112 (by decide) rfl ?_
                    refine jv_iret G hr dX8_type_113 (Nat.le_of_ble_eq_true rfl) (Nat.le_of_ble_eq_true rfl) ?_
                    refine pO.no (M := M) hS0 ?_ rfl hth hR hrs
                    unfold m_ty; rw [m_op_yes zke hse]; unfold m_tyG
                    simp only [*, if_true, if_false, Bool.false_eq_true, reduceIte, Bool.and_true, Bool.and_false, Bool.true_and, Bool.false_and, Bool.not_true, Bool.not_false, Bool.true_or, Bool.or_true, Bool.false_or, Option.isNone_some, Option.isNone_none, decide_true, decide_false]
          · subst c15
            refine jv_iload (q := 55) G 7 dX8_type_53 rfl rfl ?_
            refine jv_iconst (q := 56) (v := (-1)) G dX8_type_55 (by decide) rfl ?_
            refine jv_icmp_ne (q := 59) (tgt := 63) G dX8_type_56 (by decide) rfl (fun c31 => ?_) (fun c31 => ?_)
            · refine jv_iconst (q := 64) (v := nI 0) G dX8_type_63 (by decide) rfl ?_
              refine jv_istore (q := 66) (lo' := [(8, .int (nI 0)), (0, .ref x), (1, .int (nI k_e)), (2, .int n), (3, .int (jv_bI true)), (4, .int (jv_bI a)), (5, .int p), (6, .int (jv_bI b)), (7, .int s)]) G dX8_type_64 (by decide) rfl rfl ?_
              refine jv_aload_n (q := 67) G 1 dX8_type_66 rfl rfl rfl ?_
              refine jv_iload (q := 69) G 0 dX8_type_67 rfl rfl ?_
              refine jv_if_eqN (q := 72) (tgt := 82) G dX8_type_69 (by decide) rfl (by omega) (fun c32 => ?_) (fun c32 => ?_)
              · refine jv_iconst (q := 83) (v := nI 3) G dX8_type_82 (by decide) rfl ?_
                refine jv_goto (q := 102) G dX8_type_83 (by decide) ?_
                refine jv_putI (q := 105) G dX8_type_102 fl_X8_122 rfl hS.1 rfl ?_
                have hr1 : rs x q h1 (jv_wI h1 x 0 (nI 3)) := rs.rf.wI (nI 3) (Or.inl ⟨rfl, Or.inl rfl⟩)
                have hth : jv_I (jv_wI h1 x 0 (nI 3)) x 0 = (nI 3) := jv_I_self _ _ _ _
                have hR := hr1.R hR
                have hrs := hrs.tr hr1
                generalize jv_wI h1 x 0 (nI 3) = h33 at hth hR hrs ⊢
                obtain ⟨hS, ⟨hn8, hn⟩, ⟨hm12, hm⟩, hD, hV, hCs⟩ := id hR
                have hsc : sc x q h33 h33 := sc.rf
                have hE := (hD k_e (by omega)).2
                refine jv_aload_n (q := 106) G 1 dX8_type_105 rfl rfl rfl ?_
                refine jv_getI (q := 109) G dX8_type_106 fl_X8_122 rfl hS.1 hth rfl ?_
                refine jv_if_leN (q := 112) (tgt := 114) G dX8_type_109 (by decide) rfl (by omega) (fun c34 => ?_) (fun c34 => ?_)
                · omega
                · refine jv_iconst (q := 113) (v := nI 0) G dX8_type_112 (by decide) rfl ?_
                  refine jv_iret G hr dX8_type_113 (Nat.le_of_ble_eq_true rfl) (Nat.le_of_ble_eq_true rfl) ?_
                  refine pO.no (M := M) hS0 ?_ rfl hth hR hrs
                  unfold m_ty; rw [m_op_yes zke hse]; unfold m_tyG
                  simp only [*, if_true, if_false, Bool.false_eq_true, reduceIte, Bool.and_true, Bool.and_false, Bool.true_and, Bool.false_and, Bool.not_true, Bool.not_false, Bool.true_or, Bool.or_true, Bool.false_or, Option.isNone_some, Option.isNone_none, decide_true, decide_false]
              · omega
            · refine jv_iconst (q := 60) (v := nI 1) G dX8_type_59 (by decide) rfl ?_
              refine jv_goto (q := 64) G dX8_type_60 (by decide) ?_
              refine jv_istore (q := 66) (lo' := [(8, .int (nI 1)), (0, .ref x), (1, .int (nI k_e)), (2, .int n), (3, .int (jv_bI true)), (4, .int (jv_bI a)), (5, .int p), (6, .int (jv_bI b)), (7, .int s)]) G dX8_type_64 (by decide) rfl rfl ?_
              refine jv_aload_n (q := 67) G 1 dX8_type_66 rfl rfl rfl ?_
              refine jv_iload (q := 69) G 0 dX8_type_67 rfl rfl ?_
              refine jv_if_eqN (q := 72) (tgt := 82) G dX8_type_69 (by decide) rfl (by omega) (fun c35 => ?_) (fun c35 => ?_)
              · omega
              · refine jv_aload_n (q := 73) G 1 dX8_type_72 rfl rfl rfl ?_
                refine jv_iload_n (q := 74) G 2 dX8_type_73 rfl rfl rfl ?_
                refine jv_iload_n (q := 75) G 3 dX8_type_74 rfl rfl rfl ?_
                refine jv_callV_I (q := 78) (h1 := h1) (As := [.int (nI k_e), .int n]) (rest := [.ref x]) (ce' := 0) (sl' := 0) (r := jv_oN ((m_at (ma_t M k_e) n).map (fun k => 10 * k_e + k))) G Z ml_X8_151 (r_at hlt (hsc.S hS) (by omega) (hsc.E hS hE)) hS.1 dX8_type_75 rfl (by decide) (by decide) (by decide) (by decide) (Nat.le_of_ble_eq_true rfl) rfl rfl rfl rfl ?_
                rcases Option.eq_none_or_eq_some (m_at (ma_t M k_e) n) with hk38 | ⟨k36, hk38⟩
                · refine jv_topI (y := (-1)) (by rw [hk38]; rfl) ?_
                  refine jv_iconst (q := 79) (v := (-1)) G dX8_type_78 (by decide) rfl ?_
                  refine jv_icmp_eq (q := 82) (tgt := 86) G dX8_type_79 (by decide) rfl (fun c39 => ?_) (fun c39 => ?_)
                  · refine jv_aload_n (q := 87) G 1 dX8_type_86 rfl rfl rfl ?_
                    refine jv_getQ (q := 90) G dX8_type_87 fl_X8_13 rfl hS.1 (rf_p3 hS) rfl ?_
                    refine jv_iload_n (q := 91) G 2 dX8_type_90 rfl rfl rfl ?_
                    refine jv_iald (q := 92) G dX8_type_91 (rf_a3 hS) rfl (by omega) (by decide) (hD k_e (by omega)).2.1 rfl ?_
                    refine jv_bipush (q := 94) (v := nI 10) G dX8_type_92 (by decide) rfl ?_
                    refine jv_icmp_neN (q := 97) (tgt := 101) G dX8_type_94 (by decide) rfl (by omega) (by omega) (fun c40 => ?_) (fun c40 => ?_)
                    · refine jv_iconst (q := 102) (v := nI 0) G dX8_type_101 (by decide) rfl ?_
                      refine jv_putI (q := 105) G dX8_type_102 fl_X8_122 rfl hS.1 rfl ?_
                      have hr1 : rs x q h1 (jv_wI h1 x 0 (nI 0)) := rs.rf.wI (nI 0) (Or.inl ⟨rfl, Or.inl rfl⟩)
                      have hth : jv_I (jv_wI h1 x 0 (nI 0)) x 0 = (nI 0) := jv_I_self _ _ _ _
                      have hR := hr1.R hR
                      have hrs := hrs.tr hr1
                      generalize jv_wI h1 x 0 (nI 0) = h41 at hth hR hrs ⊢
                      obtain ⟨hS, ⟨hn8, hn⟩, ⟨hm12, hm⟩, hD, hV, hCs⟩ := id hR
                      have hsc : sc x q h41 h41 := sc.rf
                      have hE := (hD k_e (by omega)).2
                      refine jv_aload_n (q := 106) G 1 dX8_type_105 rfl rfl rfl ?_
                      refine jv_getI (q := 109) G dX8_type_106 fl_X8_122 rfl hS.1 hth rfl ?_
                      refine jv_if_leN (q := 112) (tgt := 114) G dX8_type_109 (by decide) rfl (by omega) (fun c42 => ?_) (fun c42 => ?_)
                      · refine jv_bipush (q := 116) (v := nI 10) G dX8_type_114 (by decide) rfl ?_
                        refine jv_iload_n (q := 117) G 2 dX8_type_116 rfl rfl rfl ?_
                        refine jv_imulN (q := 118) G dX8_type_117 rfl ?_
                        refine jv_aload_n (q := 119) G 1 dX8_type_118 rfl rfl rfl ?_
                        refine jv_getQ (q := 122) G dX8_type_119 fl_X8_13 rfl hS.1 (rf_p3 hS) rfl ?_
                        refine jv_iload_n (q := 123) G 2 dX8_type_122 rfl rfl rfl ?_
                        refine jv_iald (q := 124) G dX8_type_123 (rf_a3 hS) rfl (by omega) (by decide) (hD k_e (by omega)).2.1 rfl ?_
                        refine jv_iaddN (q := 125) G dX8_type_124 rfl ?_
                        refine jv_istore (q := 127) (lo' := [(9, .int (nI ((10 * k_e) + ((ma_t M k_e).length)))), (8, .int (nI 1)), (0, .ref x), (1, .int (nI k_e)), (2, .int n), (3, .int (jv_bI true)), (4, .int (jv_bI a)), (5, .int p), (6, .int (jv_bI b)), (7, .int s)]) G dX8_type_125 (by decide) rfl rfl ?_
                        refine jv_aload_n (q := 128) G 2 dX8_type_127 rfl rfl rfl ?_
                        refine jv_getQ (q := 131) G dX8_type_128 fl_X8_13 rfl hS.1 (rf_p3 hS) rfl ?_
                        refine jv_iload_n (q := 132) G 3 dX8_type_131 rfl rfl rfl ?_
                        refine jv_dup2 (q := 133) G dX8_type_132 rfl rfl rfl ?_
                        refine jv_iald (q := 134) G dX8_type_133 (rf_a3 hS) rfl (by omega) (by decide) (hD k_e (by omega)).2.1 rfl ?_
                        refine jv_iconst (q := 135) (v := nI 1) G dX8_type_134 (by decide) rfl ?_
                        refine jv_iaddN (q := 136) G dX8_type_135 rfl ?_
                        refine jv_iast (q := 137) G dX8_type_136 (rf_a3 hS) rfl (by omega) (by decide) rfl ?_
                        refine jv_aload_n (q := 138) G 2 dX8_type_137 rfl rfl rfl ?_
                        refine jv_getQ (q := 141) G dX8_type_138 fl_X8_17 rfl hS.1 (rf_p4 hS) rfl ?_
                        refine jv_iload (q := 143) G 0 dX8_type_141 rfl rfl ?_
                        refine jv_iload_n (q := 144) G 4 dX8_type_143 rfl rfl rfl ?_
                        refine jv_iast (q := 145) G dX8_type_144 (rf_a4 hS) rfl (by omega) (by decide) rfl ?_
                        refine jv_aload_n (q := 146) G 2 dX8_type_145 rfl rfl rfl ?_
                        refine jv_getQ (q := 149) G dX8_type_146 fl_X8_20 rfl hS.1 (rf_p5 hS) rfl ?_
                        refine jv_iload (q := 151) G 0 dX8_type_149 rfl rfl ?_
                        refine jv_iload_n (q := 152) G 5 dX8_type_151 rfl rfl rfl ?_
                        refine jv_zast (q := 153) G dX8_type_152 (rf_a5 hS) rfl (by omega) (by decide) rfl ?_
                        refine jv_aload_n (q := 154) G 2 dX8_type_153 rfl rfl rfl ?_
                        refine jv_getQ (q := 157) G dX8_type_154 fl_X8_23 rfl hS.1 (rf_p6 hS) rfl ?_
                        refine jv_iload (q := 159) G 0 dX8_type_157 rfl rfl ?_
                        refine jv_iload_n (q := 160) G 5 dX8_type_159 rfl rfl rfl ?_
                        refine jv_if_neB (q := 163) (tgt := 168) G dX8_type_160 (by decide) rfl (fun c43 => ?_) (fun c43 => ?_)
                        · refine jv_iconst (q := 169) (v := nI 1) G dX8_type_168 (by decide) rfl ?_
                          refine jv_goto (q := 173) G dX8_type_169 (by decide) ?_
                          refine jv_topI (y := jv_bI true) rfl ?_
                          refine jv_zast (q := 174) G dX8_type_173 (rf_a6 hS) rfl (by omega) (by decide) rfl ?_
                          refine jv_aload_n (q := 175) G 2 dX8_type_174 rfl rfl rfl ?_
                          refine jv_getQ (q := 178) G dX8_type_175 fl_X8_26 rfl hS.1 (rf_p7 hS) rfl ?_
                          refine jv_iload (q := 180) G 0 dX8_type_178 rfl rfl ?_
                          refine jv_iload (q := 182) G 7 dX8_type_180 rfl rfl ?_
                          refine jv_iast (q := 183) G dX8_type_182 (rf_a7 hS) rfl (by omega) (by decide) rfl ?_
                          refine jv_aload_n (q := 184) G 2 dX8_type_183 rfl rfl rfl ?_
                          refine jv_getQ (q := 187) G dX8_type_184 fl_X8_29 rfl hS.1 (rf_p8 hS) rfl ?_
                          refine jv_iload (q := 189) G 0 dX8_type_187 rfl rfl ?_
                          refine jv_iload (q := 191) G 8 dX8_type_189 rfl rfl ?_
                          refine jv_zast (q := 192) G dX8_type_191 (rf_a8 hS) rfl (by omega) (by decide) rfl ?_
                          refine jv_aload_n (q := 193) G 2 dX8_type_192 rfl rfl rfl ?_
                          refine jv_getQ (q := 196) G dX8_type_193 fl_X8_32 rfl hS.1 (rf_p9 hS) rfl ?_
                          refine jv_iload (q := 198) G 0 dX8_type_196 rfl rfl ?_
                          refine jv_iload (q := 200) G 9 dX8_type_198 rfl rfl ?_
                          refine jv_iast (q := 201) G dX8_type_200 (rf_a9 hS) rfl (by omega) (by decide) rfl ?_
                          refine jv_aload_n (q := 202) G 2 dX8_type_201 rfl rfl rfl ?_
                          refine jv_getQ (q := 205) G dX8_type_202 fl_X8_35 rfl hS.1 (rf_p10 hS) rfl ?_
                          refine jv_iload (q := 207) G 0 dX8_type_205 rfl rfl ?_
                          refine jv_iconst (q := 208) (v := nI 0) G dX8_type_207 (by decide) rfl ?_
                          refine jv_iast (q := 209) G dX8_type_208 (rf_a10 hS) rfl (by omega) (by decide) rfl ?_
                          refine jv_aload_n (q := 210) G 2 dX8_type_209 rfl rfl rfl ?_
                          refine jv_getQ (q := 213) G dX8_type_210 fl_X8_41 rfl hS.1 (rf_p12 hS) rfl ?_
                          refine jv_iload (q := 215) G 0 dX8_type_213 rfl rfl ?_
                          refine jv_iconst (q := 216) (v := nI 0) G dX8_type_215 (by decide) rfl ?_
                          refine jv_iast (q := 217) G dX8_type_216 (rf_a12 hS) rfl (by omega) (by decide) rfl ?_
                          refine jv_aload_n (q := 218) G 2 dX8_type_217 rfl rfl rfl ?_
                          refine jv_getQ (q := 221) G dX8_type_218 fl_X8_13 rfl hS.1 (rf_p3 hS) rfl ?_
                          refine jv_iload_n (q := 222) G 3 dX8_type_221 rfl rfl rfl ?_
                          refine jv_iald (q := 223) G dX8_type_222 (rf_a3 hS) rfl (by omega) (by decide) rfl rfl ?_
                          refine jv_iret G hr dX8_type_223 (Nat.le_of_ble_eq_true rfl) (Nat.le_of_ble_eq_true rfl) ?_
                          have hFa := (show FW (w_T1 k_e (ma_t M k_e).length) xcr x q h41 (jv_wI (jv_wI (jv_wI (jv_wI (jv_wI (jv_wI (jv_wI (jv_wI (jv_wI h41 (q 3) k_e (nI (((ma_t M k_e).length) + 1))) (q 4) ((10 * k_e) + ((ma_t M k_e).length)) n) (q 5) ((10 * k_e) + ((ma_t M k_e).length)) (jv_bI true)) (q 6) ((10 * k_e) + ((ma_t M k_e).length)) (jv_bI true)) (q 7) ((10 * k_e) + ((ma_t M k_e).length)) p) (q 8) ((10 * k_e) + ((ma_t M k_e).length)) (jv_bI b)) (q 9) ((10 * k_e) + ((ma_t M k_e).length)) s) (q 10) ((10 * k_e) + ((ma_t M k_e).length)) (nI 0)) (q 12) ((10 * k_e) + ((ma_t M k_e).length)) (nI 0)) from (((((((((FW.rf.wq hS (by decide) rfl (Or.inl ⟨rfl, rfl⟩) _).wq hS (by decide) rfl (Or.inr (Or.inl ⟨by unfold k_t; omega, rfl⟩)) _).wq hS (by decide) rfl (Or.inr (Or.inl ⟨by unfold k_t; omega, rfl⟩)) _).wq hS (by decide) rfl (Or.inr (Or.inl ⟨by unfold k_t; omega, rfl⟩)) _).wq hS (by decide) rfl (Or.inr (Or.inl ⟨by unfold k_t; omega, rfl⟩)) _).wq hS (by decide) rfl (Or.inr (Or.inl ⟨by unfold k_t; omega, rfl⟩)) _).wq hS (by decide) rfl (Or.inr (Or.inl ⟨by unfold k_t; omega, rfl⟩)) _).wq hS (by decide) rfl (Or.inr (Or.inl ⟨by unfold k_t; omega, rfl⟩)) _).wq hS (by decide) rfl (Or.inr (Or.inl ⟨by unfold k_t; omega, rfl⟩)) _))
                          have h10 : (ma_t M k_e).length < 10 := by omega
                          have p3 : jv_I (jv_wI (jv_wI (jv_wI (jv_wI (jv_wI (jv_wI (jv_wI (jv_wI (jv_wI h41 (q 3) k_e (nI (((ma_t M k_e).length) + 1))) (q 4) ((10 * k_e) + ((ma_t M k_e).length)) n) (q 5) ((10 * k_e) + ((ma_t M k_e).length)) (jv_bI true)) (q 6) ((10 * k_e) + ((ma_t M k_e).length)) (jv_bI true)) (q 7) ((10 * k_e) + ((ma_t M k_e).length)) p) (q 8) ((10 * k_e) + ((ma_t M k_e).length)) (jv_bI b)) (q 9) ((10 * k_e) + ((ma_t M k_e).length)) s) (q 10) ((10 * k_e) + ((ma_t M k_e).length)) (nI 0)) (q 12) ((10 * k_e) + ((ma_t M k_e).length)) (nI 0)) (q 3) k_e = nI ((ma_t M k_e).length + 1) := ((((((((((qI_q hS (by decide) rfl (by decide) rfl _ _ _).trans (if_neg (fun e => absurd e.1 (by decide)))).trans ((qI_q hS (by decide) rfl (by decide) rfl _ _ _).trans (if_neg (fun e => absurd e.1 (by decide))))).trans ((qI_q hS (by decide) rfl (by decide) rfl _ _ _).trans (if_neg (fun e => absurd e.1 (by decide))))).trans ((qI_q hS (by decide) rfl (by decide) rfl _ _ _).trans (if_neg (fun e => absurd e.1 (by decide))))).trans ((qI_q hS (by decide) rfl (by decide) rfl _ _ _).trans (if_neg (fun e => absurd e.1 (by decide))))).trans ((qI_q hS (by decide) rfl (by decide) rfl _ _ _).trans (if_neg (fun e => absurd e.1 (by decide))))).trans ((qI_q hS (by decide) rfl (by decide) rfl _ _ _).trans (if_neg (fun e => absurd e.1 (by decide))))).trans ((qI_q hS (by decide) rfl (by decide) rfl _ _ _).trans (if_neg (fun e => absurd e.1 (by decide))))).trans ((qI_q hS (by decide) rfl (by decide) rfl _ _ _).trans (if_pos ⟨rfl, rfl⟩)))
                          have hg : m_tyG n true p s = true := by
                            unfold m_tyG; simp only [*, if_true, if_false, Bool.false_eq_true, reduceIte, Bool.and_true, Bool.and_false, Bool.true_and, Bool.false_and, Bool.not_true, Bool.not_false, Bool.true_or, Bool.or_true, Bool.false_or, Option.isNone_some, Option.isNone_none, decide_true, decide_false]
                          have hT := rf_T.new (q := q) (h := jv_wI (jv_wI (jv_wI (jv_wI (jv_wI (jv_wI (jv_wI (jv_wI (jv_wI h41 (q 3) k_e (nI (((ma_t M k_e).length) + 1))) (q 4) ((10 * k_e) + ((ma_t M k_e).length)) n) (q 5) ((10 * k_e) + ((ma_t M k_e).length)) (jv_bI true)) (q 6) ((10 * k_e) + ((ma_t M k_e).length)) (jv_bI true)) (q 7) ((10 * k_e) + ((ma_t M k_e).length)) p) (q 8) ((10 * k_e) + ((ma_t M k_e).length)) (jv_bI b)) (q 9) ((10 * k_e) + ((ma_t M k_e).length)) s) (q 10) ((10 * k_e) + ((ma_t M k_e).length)) (nI 0)) (q 12) ((10 * k_e) + ((ma_t M k_e).length)) (nI 0)) (j := (10 * k_e) + (ma_t M k_e).length) ((((((((((qI_q hS (by decide) rfl (by decide) rfl _ _ _).trans (if_neg (fun e => absurd e.1 (by decide)))).trans ((qI_q hS (by decide) rfl (by decide) rfl _ _ _).trans (if_neg (fun e => absurd e.1 (by decide))))).trans ((qI_q hS (by decide) rfl (by decide) rfl _ _ _).trans (if_neg (fun e => absurd e.1 (by decide))))).trans ((qI_q hS (by decide) rfl (by decide) rfl _ _ _).trans (if_neg (fun e => absurd e.1 (by decide))))).trans ((qI_q hS (by decide) rfl (by decide) rfl _ _ _).trans (if_neg (fun e => absurd e.1 (by decide))))).trans ((qI_q hS (by decide) rfl (by decide) rfl _ _ _).trans (if_neg (fun e => absurd e.1 (by decide))))).trans ((qI_q hS (by decide) rfl (by decide) rfl _ _ _).trans (if_neg (fun e => absurd e.1 (by decide))))).trans ((qI_q hS (by decide) rfl (by decide) rfl _ _ _).trans (if_neg (fun e => by have := e.2; omega)))).trans ((qI_q hS (by decide) rfl (by decide) rfl _ _ _).trans (if_neg (fun e => absurd e.1 (by decide))))) ((((((((((qI_q hS (by decide) rfl (by decide) rfl _ _ _).trans (if_neg (fun e => absurd e.1 (by decide)))).trans ((qI_q hS (by decide) rfl (by decide) rfl _ _ _).trans (if_neg (fun e => absurd e.1 (by decide))))).trans ((qI_q hS (by decide) rfl (by decide) rfl _ _ _).trans (if_neg (fun e => absurd e.1 (by decide))))).trans ((qI_q hS (by decide) rfl (by decide) rfl _ _ _).trans (if_neg (fun e => absurd e.1 (by decide))))).trans ((qI_q hS (by decide) rfl (by decide) rfl _ _ _).trans (if_neg (fun e => absurd e.1 (by decide))))).trans ((qI_q hS (by decide) rfl (by decide) rfl _ _ _).trans (if_neg (fun e => absurd e.1 (by decide))))).trans ((qI_q hS (by decide) rfl (by decide) rfl _ _ _).trans (if_neg (fun e => by have := e.2; omega)))).trans ((qI_q hS (by decide) rfl (by decide) rfl _ _ _).trans (if_neg (fun e => absurd e.1 (by decide))))).trans ((qI_q hS (by decide) rfl (by decide) rfl _ _ _).trans (if_neg (fun e => absurd e.1 (by decide))))) ((((((((((qI_q hS (by decide) rfl (by decide) rfl _ _ _).trans (if_neg (fun e => absurd e.1 (by decide)))).trans ((qI_q hS (by decide) rfl (by decide) rfl _ _ _).trans (if_neg (fun e => absurd e.1 (by decide))))).trans ((qI_q hS (by decide) rfl (by decide) rfl _ _ _).trans (if_neg (fun e => absurd e.1 (by decide))))).trans ((qI_q hS (by decide) rfl (by decide) rfl _ _ _).trans (if_neg (fun e => absurd e.1 (by decide))))).trans ((qI_q hS (by decide) rfl (by decide) rfl _ _ _).trans (if_neg (fun e => absurd e.1 (by decide))))).trans ((qI_q hS (by decide) rfl (by decide) rfl _ _ _).trans (if_neg (fun e => by have := e.2; omega)))).trans ((qI_q hS (by decide) rfl (by decide) rfl _ _ _).trans (if_neg (fun e => absurd e.1 (by decide))))).trans ((qI_q hS (by decide) rfl (by decide) rfl _ _ _).trans (if_neg (fun e => absurd e.1 (by decide))))).trans ((qI_q hS (by decide) rfl (by decide) rfl _ _ _).trans (if_neg (fun e => absurd e.1 (by decide))))) ((((((((((qI_q hS (by decide) rfl (by decide) rfl _ _ _).trans (if_neg (fun e => absurd e.1 (by decide)))).trans ((qI_q hS (by decide) rfl (by decide) rfl _ _ _).trans (if_neg (fun e => absurd e.1 (by decide))))).trans ((qI_q hS (by decide) rfl (by decide) rfl _ _ _).trans (if_neg (fun e => absurd e.1 (by decide))))).trans ((qI_q hS (by decide) rfl (by decide) rfl _ _ _).trans (if_neg (fun e => absurd e.1 (by decide))))).trans ((qI_q hS (by decide) rfl (by decide) rfl _ _ _).trans (if_neg (fun e => by have := e.2; omega)))).trans ((qI_q hS (by decide) rfl (by decide) rfl _ _ _).trans (if_neg (fun e => absurd e.1 (by decide))))).trans ((qI_q hS (by decide) rfl (by decide) rfl _ _ _).trans (if_neg (fun e => absurd e.1 (by decide))))).trans ((qI_q hS (by decide) rfl (by decide) rfl _ _ _).trans (if_neg (fun e => absurd e.1 (by decide))))).trans ((qI_q hS (by decide) rfl (by decide) rfl _ _ _).trans (if_neg (fun e => absurd e.1 (by decide))))) ((((((((((qI_q hS (by decide) rfl (by decide) rfl _ _ _).trans (if_neg (fun e => absurd e.1 (by decide)))).trans ((qI_q hS (by decide) rfl (by decide) rfl _ _ _).trans (if_neg (fun e => absurd e.1 (by decide))))).trans ((qI_q hS (by decide) rfl (by decide) rfl _ _ _).trans (if_neg (fun e => absurd e.1 (by decide))))).trans ((qI_q hS (by decide) rfl (by decide) rfl _ _ _).trans (if_neg (fun e => by have := e.2; omega)))).trans ((qI_q hS (by decide) rfl (by decide) rfl _ _ _).trans (if_neg (fun e => absurd e.1 (by decide))))).trans ((qI_q hS (by decide) rfl (by decide) rfl _ _ _).trans (if_neg (fun e => absurd e.1 (by decide))))).trans ((qI_q hS (by decide) rfl (by decide) rfl _ _ _).trans (if_neg (fun e => absurd e.1 (by decide))))).trans ((qI_q hS (by decide) rfl (by decide) rfl _ _ _).trans (if_neg (fun e => absurd e.1 (by decide))))).trans ((qI_q hS (by decide) rfl (by decide) rfl _ _ _).trans (if_neg (fun e => absurd e.1 (by decide))))) ((((((((((qI_q hS (by decide) rfl (by decide) rfl _ _ _).trans (if_neg (fun e => absurd e.1 (by decide)))).trans ((qI_q hS (by decide) rfl (by decide) rfl _ _ _).trans (if_neg (fun e => absurd e.1 (by decide))))).trans ((qI_q hS (by decide) rfl (by decide) rfl _ _ _).trans (if_neg (fun e => by have := e.2; omega)))).trans ((qI_q hS (by decide) rfl (by decide) rfl _ _ _).trans (if_neg (fun e => absurd e.1 (by decide))))).trans ((qI_q hS (by decide) rfl (by decide) rfl _ _ _).trans (if_neg (fun e => absurd e.1 (by decide))))).trans ((qI_q hS (by decide) rfl (by decide) rfl _ _ _).trans (if_neg (fun e => absurd e.1 (by decide))))).trans ((qI_q hS (by decide) rfl (by decide) rfl _ _ _).trans (if_neg (fun e => absurd e.1 (by decide))))).trans ((qI_q hS (by decide) rfl (by decide) rfl _ _ _).trans (if_neg (fun e => absurd e.1 (by decide))))).trans ((qI_q hS (by decide) rfl (by decide) rfl _ _ _).trans (if_neg (fun e => absurd e.1 (by decide))))) ((((((((((qI_q hS (by decide) rfl (by decide) rfl _ _ _).trans (if_neg (fun e => absurd e.1 (by decide)))).trans ((qI_q hS (by decide) rfl (by decide) rfl _ _ _).trans (if_neg (fun e => by have := e.2; omega)))).trans ((qI_q hS (by decide) rfl (by decide) rfl _ _ _).trans (if_neg (fun e => absurd e.1 (by decide))))).trans ((qI_q hS (by decide) rfl (by decide) rfl _ _ _).trans (if_neg (fun e => absurd e.1 (by decide))))).trans ((qI_q hS (by decide) rfl (by decide) rfl _ _ _).trans (if_neg (fun e => absurd e.1 (by decide))))).trans ((qI_q hS (by decide) rfl (by decide) rfl _ _ _).trans (if_neg (fun e => absurd e.1 (by decide))))).trans ((qI_q hS (by decide) rfl (by decide) rfl _ _ _).trans (if_neg (fun e => absurd e.1 (by decide))))).trans ((qI_q hS (by decide) rfl (by decide) rfl _ _ _).trans (if_neg (fun e => absurd e.1 (by decide))))).trans ((qI_q hS (by decide) rfl (by decide) rfl _ _ _).trans (if_neg (fun e => absurd e.1 (by decide))))) ((((((((((qI_q hS (by decide) rfl (by decide) rfl _ _ _).trans (if_neg (fun e => by have := e.2; omega))).trans ((qI_q hS (by decide) rfl (by decide) rfl _ _ _).trans (if_neg (fun e => absurd e.1 (by decide))))).trans ((qI_q hS (by decide) rfl (by decide) rfl _ _ _).trans (if_neg (fun e => absurd e.1 (by decide))))).trans ((qI_q hS (by decide) rfl (by decide) rfl _ _ _).trans (if_neg (fun e => absurd e.1 (by decide))))).trans ((qI_q hS (by decide) rfl (by decide) rfl _ _ _).trans (if_neg (fun e => absurd e.1 (by decide))))).trans ((qI_q hS (by decide) rfl (by decide) rfl _ _ _).trans (if_neg (fun e => absurd e.1 (by decide))))).trans ((qI_q hS (by decide) rfl (by decide) rfl _ _ _).trans (if_neg (fun e => absurd e.1 (by decide))))).trans ((qI_q hS (by decide) rfl (by decide) rfl _ _ _).trans (if_neg (fun e => absurd e.1 (by decide))))).trans ((qI_q hS (by decide) rfl (by decide) rfl _ _ _).trans (if_neg (fun e => absurd e.1 (by decide))))) hg
                          refine pO.mk (th := 0) (r := nI ((ma_t M k_e).length + 1)) (M' := m_put M k_e (false, (ma_t M k_e) ++ [_])) ?_ (congrArg (fun z => some (Value.int z)) p3) ((((((((((xI_q hS (by decide) rfl _ _ _).trans (xI_q hS (by decide) rfl _ _ _)).trans (xI_q hS (by decide) rfl _ _ _)).trans (xI_q hS (by decide) rfl _ _ _)).trans (xI_q hS (by decide) rfl _ _ _)).trans (xI_q hS (by decide) rfl _ _ _)).trans (xI_q hS (by decide) rfl _ _ _)).trans (xI_q hS (by decide) rfl _ _ _)).trans (xI_q hS (by decide) rfl _ _ _)).trans hth) (rf_R.ed hR hke hse (hFa.mono (fun k j w => w_T1_E h10 w) (fun _ z => z)) (((((((((((qI_q hS (by decide) rfl (by decide) rfl _ _ _).trans (if_neg (fun e => absurd e.1 (by decide)))).trans ((qI_q hS (by decide) rfl (by decide) rfl _ _ _).trans (if_neg (fun e => absurd e.1 (by decide))))).trans ((qI_q hS (by decide) rfl (by decide) rfl _ _ _).trans (if_neg (fun e => absurd e.1 (by decide))))).trans ((qI_q hS (by decide) rfl (by decide) rfl _ _ _).trans (if_neg (fun e => absurd e.1 (by decide))))).trans ((qI_q hS (by decide) rfl (by decide) rfl _ _ _).trans (if_neg (fun e => absurd e.1 (by decide))))).trans ((qI_q hS (by decide) rfl (by decide) rfl _ _ _).trans (if_neg (fun e => absurd e.1 (by decide))))).trans ((qI_q hS (by decide) rfl (by decide) rfl _ _ _).trans (if_neg (fun e => absurd e.1 (by decide))))).trans ((qI_q hS (by decide) rfl (by decide) rfl _ _ _).trans (if_neg (fun e => absurd e.1 (by decide))))).trans ((qI_q hS (by decide) rfl (by decide) rfl _ _ _).trans (if_neg (fun e => absurd e.1 (by decide))))).trans ((hD k_e (by omega)).1.trans (by rw [hse]))) (hE.snoc hFa p3 h10 hT) (fun z => by cases z)) ((hrs.FW hS0).fr.tr hFa.fr)
                          unfold m_ty
                          rw [m_op_yes zke hse, hg]
                          simp only [*, if_true, if_false, Bool.false_eq_true, reduceIte, Bool.and_true, Bool.and_false, Bool.true_and, Bool.false_and, Bool.not_true, Bool.not_false, Bool.true_or, Bool.or_true, Bool.false_or, Option.isNone_some, Option.isNone_none, decide_true, decide_false]
                          first | done | rfl
                        · cases c43
                      · omega
                    · refine jv_iconst (q := 98) (v := nI 4) G dX8_type_97 (by decide) rfl ?_
                      refine jv_goto (q := 102) G dX8_type_98 (by decide) ?_
                      refine jv_putI (q := 105) G dX8_type_102 fl_X8_122 rfl hS.1 rfl ?_
                      have hr1 : rs x q h1 (jv_wI h1 x 0 (nI 4)) := rs.rf.wI (nI 4) (Or.inl ⟨rfl, Or.inl rfl⟩)
                      have hth : jv_I (jv_wI h1 x 0 (nI 4)) x 0 = (nI 4) := jv_I_self _ _ _ _
                      have hR := hr1.R hR
                      have hrs := hrs.tr hr1
                      generalize jv_wI h1 x 0 (nI 4) = h44 at hth hR hrs ⊢
                      obtain ⟨hS, ⟨hn8, hn⟩, ⟨hm12, hm⟩, hD, hV, hCs⟩ := id hR
                      have hsc : sc x q h44 h44 := sc.rf
                      have hE := (hD k_e (by omega)).2
                      refine jv_aload_n (q := 106) G 1 dX8_type_105 rfl rfl rfl ?_
                      refine jv_getI (q := 109) G dX8_type_106 fl_X8_122 rfl hS.1 hth rfl ?_
                      refine jv_if_leN (q := 112) (tgt := 114) G dX8_type_109 (by decide) rfl (by omega) (fun c45 => ?_) (fun c45 => ?_)
                      · omega
                      · refine jv_iconst (q := 113) (v := nI 0) G dX8_type_112 (by decide) rfl ?_
                        refine jv_iret G hr dX8_type_113 (Nat.le_of_ble_eq_true rfl) (Nat.le_of_ble_eq_true rfl) ?_
                        refine pO.no (M := M) hS0 ?_ rfl hth hR hrs
                        unfold m_ty; rw [m_op_yes zke hse]; unfold m_tyG
                        simp only [*, if_true, if_false, Bool.false_eq_true, reduceIte, Bool.and_true, Bool.and_false, Bool.true_and, Bool.false_and, Bool.not_true, Bool.not_false, Bool.true_or, Bool.or_true, Bool.false_or, Option.isNone_some, Option.isNone_none, decide_true, decide_false]
                  · exact absurd rfl c39
                · refine jv_topI (y := nI (10 * k_e + k36)) (by rw [hk38]; rfl) ?_
                  obtain ⟨t37, ht37, nt37, lt37⟩ := m_at_some hk38
                  have Tt37 := (hE.2.2 k36 t37 ht37).1
                  have Ot37 := (hE.2.2 k36 t37 ht37).2
                  have Lt37 := hE.2.1
                  have Bt37n := Ot37.1; have Bt37k := Ot37.2.1
                  refine jv_iconst (q := 79) (v := (-1)) G dX8_type_78 (by decide) rfl ?_
                  refine jv_icmp_eq (q := 82) (tgt := 86) G dX8_type_79 (by decide) rfl (fun c46 => ?_) (fun c46 => ?_)
                  · exact absurd c46 (jv_nI_m1 (by omega))
                  · refine jv_iconst (q := 83) (v := nI 3) G dX8_type_82 (by decide) rfl ?_
                    refine jv_goto (q := 102) G dX8_type_83 (by decide) ?_
                    refine jv_putI (q := 105) G dX8_type_102 fl_X8_122 rfl hS.1 rfl ?_
                    have hr1 : rs x q h1 (jv_wI h1 x 0 (nI 3)) := rs.rf.wI (nI 3) (Or.inl ⟨rfl, Or.inl rfl⟩)
                    have hth : jv_I (jv_wI h1 x 0 (nI 3)) x 0 = (nI 3) := jv_I_self _ _ _ _
                    have hR := hr1.R hR
                    have hrs := hrs.tr hr1
                    generalize jv_wI h1 x 0 (nI 3) = h47 at hth hR hrs ⊢
                    obtain ⟨hS, ⟨hn8, hn⟩, ⟨hm12, hm⟩, hD, hV, hCs⟩ := id hR
                    have hsc : sc x q h47 h47 := sc.rf
                    have hE := (hD k_e (by omega)).2
                    have Tt37 := (hE.2.2 k36 t37 ht37).1
                    refine jv_aload_n (q := 106) G 1 dX8_type_105 rfl rfl rfl ?_
                    refine jv_getI (q := 109) G dX8_type_106 fl_X8_122 rfl hS.1 hth rfl ?_
                    refine jv_if_leN (q := 112) (tgt := 114) G dX8_type_109 (by decide) rfl (by omega) (fun c48 => ?_) (fun c48 => ?_)
                    · omega
                    · refine jv_iconst (q := 113) (v := nI 0) G dX8_type_112 (by decide) rfl ?_
                      refine jv_iret G hr dX8_type_113 (Nat.le_of_ble_eq_true rfl) (Nat.le_of_ble_eq_true rfl) ?_
                      refine pO.no (M := M) hS0 ?_ rfl hth hR hrs
                      unfold m_ty; rw [m_op_yes zke hse]; unfold m_tyG
                      simp only [*, if_true, if_false, Bool.false_eq_true, reduceIte, Bool.and_true, Bool.and_false, Bool.true_and, Bool.false_and, Bool.not_true, Bool.not_false, Bool.true_or, Bool.or_true, Bool.false_or, Option.isNone_some, Option.isNone_none, decide_true, decide_false]
  · refine jv_iconst (q := 17) (v := nI 0) G dX8_type_16 (by decide) rfl ?_
    refine jv_iret G hr dX8_type_17 (Nat.le_of_ble_eq_true rfl) (Nat.le_of_ble_eq_true rfl) ?_
    refine pO.no (M := M) hS0 ?_ rfl hth hR hrs
    exact m_op_no c2
