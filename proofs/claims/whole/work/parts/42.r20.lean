def m_op (M : mA) (e : Int32) (f : Nat → Nat × Int32 × mA) : Nat × Int32 × mA := match m_ix1 M.1.length e with
  | none => (1, 0, M)
  | some k => if ma_s M k then (2, 0, M) else f k
theorem m_op_no {M : mA} {e : Int32} {f : Nat → Nat × Int32 × mA} (h : ¬ m_opF M e = 0) : m_op M e f = (m_opF M e, 0, M) := by
  unfold m_op m_opF at *
  cases hq : m_ix1 M.1.length e with
  | none => rfl
  | some k =>
    rw [hq] at h
    dsimp only at h ⊢
    cases hs : ma_s M k with
    | true => rfl
    | false => rw [hs] at h; exact absurd rfl h
theorem m_op_yes {M : mA} {e : Int32} {k : Nat} {f : Nat → Nat × Int32 × mA} (h : m_ix1 M.1.length e = some k) (hs : ma_s M k = false) : m_op M e f = f k := by
  unfold m_op
  rw [h]
  dsimp only
  rw [hs]; rfl
theorem opF_0 {M : mA} {e : Int32} (h : m_opF M e = 0) (hn : M.1.length < 2 ^ 31) : ∃ k, k < M.1.length ∧ e = nI k ∧ m_ix1 M.1.length e = some k ∧ ma_s M k = false := by
  cases hb : rr_lt e M.1.length with
  | false =>
    unfold m_opF at h
    rw [rr_lt_f hb] at h
    cases h
  | true =>
    obtain ⟨k, h1, h2, h3⟩ := rr_lt_t hn hb
    refine ⟨k, h1, h2, h3, ?_⟩
    unfold m_opF at h
    rw [h3] at h
    dsimp only at h
    cases hs : ma_s M k with
    | false => rfl
    | true => rw [hs] at h; cases h
theorem opF_lt (M : mA) (e : Int32) : m_opF M e < 3 := by
  unfold m_opF
  split
  · decide
  · split <;> decide
/-- a number between bounds -/
theorem in_N {a : Int32} {k : Nat} (hk : k < 2 ^ 31) (h : rr_in a (nI 0) (nI k) = true) : a.toNatClampNeg ≤ k ∧ a = nI a.toNatClampNeg := by
  simp only [rr_in, Bool.and_eq_true, Bool.not_eq_true', decide_eq_false_iff_not] at h
  obtain ⟨n, hn, e⟩ := nI_of2 (M := nI k) (n := k) (nI_toInt hk) h.1 (by
    rw [Int32.le_iff_toInt_le]
    have h2 := h.2
    rw [Int32.lt_iff_toInt_lt] at h2
    omega)
  rw [e, nI_clamp (by omega)]
  exact ⟨by omega, rfl⟩
def m_oI (s : Int32) : Option Nat := if s = -1 then none else some s.toNatClampNeg
theorem in_O {s : Int32} {k : Nat} (hk : k < 2 ^ 31) (h : rr_in s (-1) (nI k) = true) : s = jv_oN (m_oI s) ∧ ∀ u, m_oI s = some u → u ≤ k := by
  unfold m_oI
  by_cases hs : s = -1
  · rw [if_pos hs, hs]
    exact ⟨rfl, fun u e => by cases e⟩
  · rw [if_neg hs]
    have h0 : rr_in s (nI 0) (nI k) = true := by
      simp only [rr_in, Bool.and_eq_true, Bool.not_eq_true', decide_eq_false_iff_not] at h ⊢
      refine ⟨fun z => ?_, h.2⟩
      have h1 := h.1
      rw [Int32.lt_iff_toInt_lt] at z h1
      have z2 : s.toInt < 0 := z
      have h2 : ¬ s.toInt < -1 := h1
      exact hs (Int32.toInt_inj.mp (show s.toInt = -1 by omega))
    have h3 := in_N hk h0
    exact ⟨h3.2, fun u e => by cases e; exact h3.1⟩
def m_tyG (n : Int32) (i : Bool) (p s : Int32) : Bool := rr_in n (nI 0) (nI 15) && rr_in p (nI 0) (nI 3) && rr_in s (-1) (nI 15) && (!i || decide (s = -1))
def m_tyN (n : Int32) (i a : Bool) (p : Int32) (pb : Bool) (s : Int32) : mT := (n.toNatClampNeg, i, a, p.toNatClampNeg, pb, m_oI s, [], [])
def m_ty (M : mA) (e n : Int32) (i a : Bool) (p : Int32) (pb : Bool) (s : Int32) : Nat × Int32 × mA := m_op M e (fun k => if m_tyG n i p s && (m_at (ma_t M k) n).isNone then if (ma_t M k).length = 10 then (4, 0, M) else (0, nI ((ma_t M k).length + 1), m_put M k (false, ma_t M k ++ [m_tyN n i (i || a) p pb s])) else (3, 0, M))
theorem rf_T.new {q : Nat → Nat} {h : jv_H} {j : Nat} {n p s : Int32} {i a b : Bool} (h4 : jv_I h (q 4) j = n) (h5 : jv_I h (q 5) j = jv_bI i) (h6 : jv_I h (q 6) j = jv_bI a) (h7 : jv_I h (q 7) j = p) (h8 : jv_I h (q 8) j = jv_bI b) (h9 : jv_I h (q 9) j = s) (h10 : jv_I h (q 10) j = nI 0) (h12 : jv_I h (q 12) j = nI 0) (g : m_tyG n i p s = true) : rf_T q h j (m_tyN n i a p b s) ∧ mt_ok (m_tyN n i a p b s) := by
  unfold m_tyG at g
  simp only [Bool.and_eq_true] at g
  obtain ⟨⟨⟨g1, g2⟩, g3⟩, g4⟩ := g
  have a1 := in_N (by decide) g1
  have a2 := in_N (by decide) g2
  have a3 := in_O (by decide) g3
  refine ⟨⟨h4.trans a1.2, h5, h6, h7.trans a2.2, h8, h9.trans a3.1, h10, h12, fun j v e => by simp [m_tyN, mt_f] at e, fun j v e => by simp [m_tyN, mt_m] at e⟩, ?_⟩
  refine ⟨Nat.lt_succ_of_le a1.1, Nat.lt_succ_of_le a2.1, fun u hu => ⟨Nat.lt_succ_of_le (a3.2 u hu), ?_⟩, Nat.zero_le _, fun v hv => by simp [m_tyN, mt_f] at hv, Nat.zero_le _, fun v hv => by simp [m_tyN, mt_m] at hv⟩
  show i = false
  cases i with
  | false => rfl
  | true =>
    have hs : s = -1 := by simpa using g4
    exfalso
    have hu : m_oI s = some u := hu
    unfold m_oI at hu
    rw [if_pos hs] at hu
    cases hu
def w_T1 (e n k j : Nat) : Prop := (k = 3 ∧ j = e) ∨ o_T (10 * e + n) k j
theorem w_T1_E {e n k j : Nat} (hn : n < 10) (w : w_T1 e n k j) : w_E e k j := by
  unfold w_T1 o_T k_t k_m at w
  unfold w_E o_E k_t k_m
  omega
theorem rf_E.snoc {x : Nat} {q : Nat → Nat} {h0 h : jv_H} {X : Nat → Prop} {e : Nat} {ts : List mT} {t : mT} (hE : rf_E q h0 e ts) (a : FW (w_T1 e ts.length) X x q h0 h) (h3 : jv_I h (q 3) e = nI (ts.length + 1)) (hl : ts.length < 10) (hT : rf_T q h (10 * e + ts.length) t ∧ mt_ok t) : rf_E q h e (ts ++ [t]) := by
  refine ⟨by rw [h3, List.length_append]; rfl, by rw [List.length_append]; exact hl, fun k t' ht => ?_⟩
  have h1 := jv_ltGet ht
  rw [List.length_append, List.length_singleton] at h1
  by_cases hk : k = ts.length
  · subst hk
    rw [List.getElem?_append_right (Nat.le_refl _), Nat.sub_self] at ht
    cases ht
    exact hT
  · rw [List.getElem?_append_left (by omega)] at ht
    refine ⟨a.T (hE.2.2 k t' ht).2 (fun k' j o z => ?_) (hE.2.2 k t' ht).1, (hE.2.2 k t' ht).2⟩
    rcases z with z | z
    · unfold o_T k_t k_m at o
      omega
    · have := w_CT o z
      omega
/-- one type anew -/
theorem rf_E.upd {x : Nat} {q : Nat → Nat} {h0 h : jv_H} {X : Nat → Prop} {e i : Nat} {ts : List mT} {t : mT} (hE : rf_E q h0 e ts) (hi : i < ts.length) (a : FW (o_T (10 * e + i)) X x q h0 h) (hT : rf_T q h (10 * e + i) t ∧ mt_ok t) : rf_E q h e (ts.set i t) := by
  refine ⟨by rw [List.length_set]; exact (a.aq 3 e (by unfold o_T k_t k_m; omega)).trans hE.1, by rw [List.length_set]; exact hE.2.1, fun k t' ht => ?_⟩
  by_cases hk : k = i
  · subst hk
    rw [List.getElem?_set_self hi] at ht
    cases ht
    exact hT
  · rw [List.getElem?_set_ne (Ne.symm hk)] at ht
    refine ⟨a.T (hE.2.2 k t' ht).2 (fun k' j o z => ?_) (hE.2.2 k t' ht).1, (hE.2.2 k t' ht).2⟩
    have := w_CT o z
    omega
theorem o_T_E {e i k j : Nat} (hi : i < 10) (w : o_T (10 * e + i) k j) : w_E e k j := Or.inl (w_C3 ⟨i, hi, w⟩).2.2
set_option maxHeartbeats 4000000 in
set_option maxRecDepth 100000 in
theorem r_type {lA : Launch} (hlt : lA.stackTraces = false) {D : jv_D} {base : Nat} {x : Nat} {q : Nat → Nat} {h : jv_H} {M : mA} {e n p s : Int32} {i a b : Bool} (hR : rf_R x q h M) : jv_Met lA D base yX8_type (.code yX8_type cX8_type 10 (some .int)) 3 0 0 [.ref x, .int e, .int n, .int (jv_bI i), .int (jv_bI a), .int p, .int (jv_bI b), .int s] h (pO x q h (m_ty M e n i a p b s)) jv_no := by
  refine jv_ofV (lo := [(0, .ref x), (1, .int e), (2, .int n), (3, .int (jv_bI i)), (4, .int (jv_bI a)), (5, .int p), (6, .int (jv_bI b)), (7, .int s)]) hlt (by decide) (Nat.le_of_ble_eq_true rfl) rfl (fun E hEl hEd hEz Z G hr ht hnm => ?_)
  subst hEl; subst hEd; subst hEz
  obtain ⟨hS, ⟨hn8, hn⟩, ⟨hm12, hm⟩, hD, hV, hCs⟩ := id hR
  have hS0 := hS
  have hrs : rs x q h h := rs.rf
  have hsc : sc x q h h := sc.rf
  have hop := opF_lt M e
  refine jv_aload_n (q := 1) G 0 dX8_type_0 rfl rfl rfl ?_
  refine jv_aload_n (q := 2) G 0 dX8_type_1 rfl rfl rfl ?_
  refine jv_iload_n (q := 3) G 1 dX8_type_2 rfl rfl rfl ?_
  refine jv_callV_I (q := 6) (h1 := h) (As := [.int e]) (rest := [.ref x]) (ce' := 0) (sl' := 0) (r := nI (m_opF M e)) G Z ml_X8_143 (r_openFault hlt hR) hS.1 dX8_type_3 rfl (by decide) (by decide) (by decide) (by decide) (Nat.le_of_ble_eq_true rfl) rfl rfl rfl rfl ?_
  refine jv_putI (q := 9) G dX8_type_6 fl_X8_122 rfl hS.1 rfl ?_
  have hr1 : rs x q h (jv_wI h x 0 (nI (m_opF M e))) := rs.rf.wI (nI (m_opF M e)) (Or.inl ⟨rfl, Or.inl rfl⟩)
  have hth : jv_I (jv_wI h x 0 (nI (m_opF M e))) x 0 = (nI (m_opF M e)) := jv_I_self _ _ _ _
  have hR := hr1.R hR
  have hrs := hrs.tr hr1
  generalize jv_wI h x 0 (nI (m_opF M e)) = h1 at hth hR hrs ⊢
  obtain ⟨hS, ⟨hn8, hn⟩, ⟨hm12, hm⟩, hD, hV, hCs⟩ := id hR
  have hsc : sc x q h1 h1 := sc.rf
  refine jv_aload_n (q := 10) G 0 dX8_type_9 rfl rfl rfl ?_
  refine jv_getI (q := 13) G dX8_type_10 fl_X8_122 rfl hS.1 hth rfl ?_
  refine jv_if_leN (q := 16) (tgt := 18) G dX8_type_13 (by decide) rfl (by omega) (fun c2 => ?_) (fun c2 => ?_)
  · obtain ⟨k_e, hke, eke, zke, hse⟩ := opF_0 c2 (by omega)
    have e0 := c2
    subst eke
    rw [e0] at hth
    have hE := (hD k_e (by omega)).2
    have hl10 := hE.2.1
    refine jv_iload_n (q := 19) G 2 dX8_type_18 rfl rfl rfl ?_
    refine jv_iconst (q := 20) (v := nI 0) G dX8_type_19 (by decide) rfl ?_
    refine jv_bipush (q := 22) (v := nI 15) G dX8_type_20 (by decide) rfl ?_
    refine jv_callS_I (q := 25) (h1 := h1) (As := [.int n, .int (nI 0), .int (nI 15)]) (rest := []) (ce' := 0) (sl' := 0) (r := jv_bI (rr_in n (nI 0) (nI 15))) G Z ml_X8_147 (r_isIn hlt) dX8_type_22 rfl (by decide) (by decide) (by decide) (by decide) (Nat.le_of_ble_eq_true rfl) rfl rfl rfl rfl ?_
    refine jv_if_eqB (q := 28) (tgt := 63) G dX8_type_25 (by decide) rfl (fun c3 => ?_) (fun c3 => ?_)
    · refine jv_iconst (q := 64) (v := nI 0) G dX8_type_63 (by decide) rfl ?_
      refine jv_istore (q := 66) (lo' := [(8, .int (nI 0)), (0, .ref x), (1, .int (nI k_e)), (2, .int n), (3, .int (jv_bI i)), (4, .int (jv_bI a)), (5, .int p), (6, .int (jv_bI b)), (7, .int s)]) G dX8_type_64 (by decide) rfl rfl ?_
      refine jv_aload_n (q := 67) G 1 dX8_type_66 rfl rfl rfl ?_
      refine jv_iload (q := 69) G 0 dX8_type_67 rfl rfl ?_
      refine jv_if_eqN (q := 72) (tgt := 82) G dX8_type_69 (by decide) rfl (by omega) (fun c4 => ?_) (fun c4 => ?_)
      · refine jv_iconst (q := 83) (v := nI 3) G dX8_type_82 (by decide) rfl ?_
        refine jv_goto (q := 102) G dX8_type_83 (by decide) ?_
        refine jv_putI (q := 105) G dX8_type_102 fl_X8_122 rfl hS.1 rfl ?_
        have hr1 : rs x q h1 (jv_wI h1 x 0 (nI 3)) := rs.rf.wI (nI 3) (Or.inl ⟨rfl, Or.inl rfl⟩)
        have hth : jv_I (jv_wI h1 x 0 (nI 3)) x 0 = (nI 3) := jv_I_self _ _ _ _
        have hR := hr1.R hR
        have hrs := hrs.tr hr1
        generalize jv_wI h1 x 0 (nI 3) = h5 at hth hR hrs ⊢
        obtain ⟨hS, ⟨hn8, hn⟩, ⟨hm12, hm⟩, hD, hV, hCs⟩ := id hR
        have hsc : sc x q h5 h5 := sc.rf
        have hE := (hD k_e (by omega)).2
        refine jv_aload_n (q := 106) G 1 dX8_type_105 rfl rfl rfl ?_
        refine jv_getI (q := 109) G dX8_type_106 fl_X8_122 rfl hS.1 hth rfl ?_
        refine jv_if_leN (q := 112) (tgt := 114) G dX8_type_109 (by decide) rfl (by omega) (fun c6 => ?_) (fun c6 => ?_)
        · omega
        · refine jv_iconst (q := 113) (v := nI 0) G dX8_type_112 (by decide) rfl ?_
          refine jv_iret G hr dX8_type_113 (Nat.le_of_ble_eq_true rfl) (Nat.le_of_ble_eq_true rfl) ?_
          refine pO.no (M := M) hS0 ?_ rfl hth hR hrs
          unfold m_ty; rw [m_op_yes zke hse]; unfold m_tyG
          simp only [*, if_true, if_false, Bool.false_eq_true, reduceIte, Bool.and_true, Bool.and_false, Bool.true_and, Bool.false_and, Bool.not_true, Bool.not_false, Bool.true_or, Bool.or_true, Bool.false_or, Option.isNone_some, Option.isNone_none, decide_true, decide_false]
      · omega
    · refine jv_iload (q := 30) G 5 dX8_type_28 rfl rfl ?_
      refine jv_iconst (q := 31) (v := nI 0) G dX8_type_30 (by decide) rfl ?_
      refine jv_iconst (q := 32) (v := nI 3) G dX8_type_31 (by decide) rfl ?_
      refine jv_callS_I (q := 35) (h1 := h1) (As := [.int p, .int (nI 0), .int (nI 3)]) (rest := []) (ce' := 0) (sl' := 0) (r := jv_bI (rr_in p (nI 0) (nI 3))) G Z ml_X8_147 (r_isIn hlt) dX8_type_32 rfl (by decide) (by decide) (by decide) (by decide) (Nat.le_of_ble_eq_true rfl) rfl rfl rfl rfl ?_
      refine jv_if_eqB (q := 38) (tgt := 63) G dX8_type_35 (by decide) rfl (fun c7 => ?_) (fun c7 => ?_)
      · refine jv_iconst (q := 64) (v := nI 0) G dX8_type_63 (by decide) rfl ?_
        refine jv_istore (q := 66) (lo' := [(8, .int (nI 0)), (0, .ref x), (1, .int (nI k_e)), (2, .int n), (3, .int (jv_bI i)), (4, .int (jv_bI a)), (5, .int p), (6, .int (jv_bI b)), (7, .int s)]) G dX8_type_64 (by decide) rfl rfl ?_
        refine jv_aload_n (q := 67) G 1 dX8_type_66 rfl rfl rfl ?_
        refine jv_iload (q := 69) G 0 dX8_type_67 rfl rfl ?_
        refine jv_if_eqN (q := 72) (tgt := 82) G dX8_type_69 (by decide) rfl (by omega) (fun c8 => ?_) (fun c8 => ?_)
        · refine jv_iconst (q := 83) (v := nI 3) G dX8_type_82 (by decide) rfl ?_
          refine jv_goto (q := 102) G dX8_type_83 (by decide) ?_
          refine jv_putI (q := 105) G dX8_type_102 fl_X8_122 rfl hS.1 rfl ?_
          have hr1 : rs x q h1 (jv_wI h1 x 0 (nI 3)) := rs.rf.wI (nI 3) (Or.inl ⟨rfl, Or.inl rfl⟩)
          have hth : jv_I (jv_wI h1 x 0 (nI 3)) x 0 = (nI 3) := jv_I_self _ _ _ _
          have hR := hr1.R hR
          have hrs := hrs.tr hr1
          generalize jv_wI h1 x 0 (nI 3) = h9 at hth hR hrs ⊢
          obtain ⟨hS, ⟨hn8, hn⟩, ⟨hm12, hm⟩, hD, hV, hCs⟩ := id hR
          have hsc : sc x q h9 h9 := sc.rf
          have hE := (hD k_e (by omega)).2
          refine jv_aload_n (q := 106) G 1 dX8_type_105 rfl rfl rfl ?_
          refine jv_getI (q := 109) G dX8_type_106 fl_X8_122 rfl hS.1 hth rfl ?_
          refine jv_if_leN (q := 112) (tgt := 114) G dX8_type_109 (by decide) rfl (by omega) (fun c10 => ?_) (fun c10 => ?_)
          · omega
          · refine jv_iconst (q := 113) (v := nI 0) G dX8_type_112 (by decide) rfl ?_
            refine jv_iret G hr dX8_type_113 (Nat.le_of_ble_eq_true rfl) (Nat.le_of_ble_eq_true rfl) ?_
            refine pO.no (M := M) hS0 ?_ rfl hth hR hrs
            unfold m_ty; rw [m_op_yes zke hse]; unfold m_tyG
            simp only [*, if_true, if_false, Bool.false_eq_true, reduceIte, Bool.and_true, Bool.and_false, Bool.true_and, Bool.false_and, Bool.not_true, Bool.not_false, Bool.true_or, Bool.or_true, Bool.false_or, Option.isNone_some, Option.isNone_none, decide_true, decide_false]
        · omega
      · refine jv_iload (q := 40) G 7 dX8_type_38 rfl rfl ?_
        refine jv_iconst (q := 41) (v := (-1)) G dX8_type_40 (by decide) rfl ?_
        refine jv_bipush (q := 43) (v := nI 15) G dX8_type_41 (by decide) rfl ?_
        refine jv_callS_I (q := 46) (h1 := h1) (As := [.int s, .int (-1), .int (nI 15)]) (rest := []) (ce' := 0) (sl' := 0) (r := jv_bI (rr_in s (-1) (nI 15))) G Z ml_X8_147 (r_isIn hlt) dX8_type_43 rfl (by decide) (by decide) (by decide) (by decide) (Nat.le_of_ble_eq_true rfl) rfl rfl rfl rfl ?_
        refine jv_if_eqB (q := 49) (tgt := 63) G dX8_type_46 (by decide) rfl (fun c11 => ?_) (fun c11 => ?_)
        · refine jv_iconst (q := 64) (v := nI 0) G dX8_type_63 (by decide) rfl ?_
          refine jv_istore (q := 66) (lo' := [(8, .int (nI 0)), (0, .ref x), (1, .int (nI k_e)), (2, .int n), (3, .int (jv_bI i)), (4, .int (jv_bI a)), (5, .int p), (6, .int (jv_bI b)), (7, .int s)]) G dX8_type_64 (by decide) rfl rfl ?_
          refine jv_aload_n (q := 67) G 1 dX8_type_66 rfl rfl rfl ?_
          refine jv_iload (q := 69) G 0 dX8_type_67 rfl rfl ?_
          refine jv_if_eqN (q := 72) (tgt := 82) G dX8_type_69 (by decide) rfl (by omega) (fun c12 => ?_) (fun c12 => ?_)
          · refine jv_iconst (q := 83) (v := nI 3) G dX8_type_82 (by decide) rfl ?_
            refine jv_goto (q := 102) G dX8_type_83 (by decide) ?_
            refine jv_putI (q := 105) G dX8_type_102 fl_X8_122 rfl hS.1 rfl ?_
            have hr1 : rs x q h1 (jv_wI h1 x 0 (nI 3)) := rs.rf.wI (nI 3) (Or.inl ⟨rfl, Or.inl rfl⟩)
            have hth : jv_I (jv_wI h1 x 0 (nI 3)) x 0 = (nI 3) := jv_I_self _ _ _ _
            have hR := hr1.R hR
            have hrs := hrs.tr hr1
            generalize jv_wI h1 x 0 (nI 3) = h13 at hth hR hrs ⊢
            obtain ⟨hS, ⟨hn8, hn⟩, ⟨hm12, hm⟩, hD, hV, hCs⟩ := id hR
            have hsc : sc x q h13 h13 := sc.rf
            have hE := (hD k_e (by omega)).2
            refine jv_aload_n (q := 106) G 1 dX8_type_105 rfl rfl rfl ?_
            refine jv_getI (q := 109) G dX8_type_106 fl_X8_122 rfl hS.1 hth rfl ?_
            refine jv_if_leN (q := 112) (tgt := 114) G dX8_type_109 (by decide) rfl (by omega) (fun c14 => ?_) (fun c14 => ?_)
            · omega
            · refine jv_iconst (q := 113) (v := nI 0) G dX8_type_112 (by decide) rfl ?_
              refine jv_iret G hr dX8_type_113 (Nat.le_of_ble_eq_true rfl) (Nat.le_of_ble_eq_true rfl) ?_
              refine pO.no (M := M) hS0 ?_ rfl hth hR hrs
              unfold m_ty; rw [m_op_yes zke hse]; unfold m_tyG
              simp only [*, if_true, if_false, Bool.false_eq_true, reduceIte, Bool.and_true, Bool.and_false, Bool.true_and, Bool.false_and, Bool.not_true, Bool.not_false, Bool.true_or, Bool.or_true, Bool.false_or, Option.isNone_some, Option.isNone_none, decide_true, decide_false]
          · omega
        · refine jv_iload_n (q := 50) G 3 dX8_type_49 rfl rfl rfl ?_
          refine jv_if_eqB (q := 53) (tgt := 59) G dX8_type_50 (by decide) rfl (fun c15 => ?_) (fun c15 => ?_)
          · subst c15
            refine jv_iconst (q := 60) (v := nI 1) G dX8_type_59 (by decide) rfl ?_
            refine jv_goto (q := 64) G dX8_type_60 (by decide) ?_
            refine jv_istore (q := 66) (lo' := [(8, .int (nI 1)), (0, .ref x), (1, .int (nI k_e)), (2, .int n), (3, .int (jv_bI false)), (4, .int (jv_bI a)), (5, .int p), (6, .int (jv_bI b)), (7, .int s)]) G dX8_type_64 (by decide) rfl rfl ?_
            refine jv_aload_n (q := 67) G 1 dX8_type_66 rfl rfl rfl ?_
            refine jv_iload (q := 69) G 0 dX8_type_67 rfl rfl ?_
            refine jv_if_eqN (q := 72) (tgt := 82) G dX8_type_69 (by decide) rfl (by omega) (fun c16 => ?_) (fun c16 => ?_)
            · omega
            · refine jv_aload_n (q := 73) G 1 dX8_type_72 rfl rfl rfl ?_
              refine jv_iload_n (q := 74) G 2 dX8_type_73 rfl rfl rfl ?_
              refine jv_iload_n (q := 75) G 3 dX8_type_74 rfl rfl rfl ?_
              refine jv_callV_I (q := 78) (h1 := h1) (As := [.int (nI k_e), .int n]) (rest := [.ref x]) (ce' := 0) (sl' := 0) (r := jv_oN ((m_at (ma_t M k_e) n).map (fun k => 10 * k_e + k))) G Z ml_X8_151 (r_at hlt (hsc.S hS) (by omega) (hsc.E hS hE)) hS.1 dX8_type_75 rfl (by decide) (by decide) (by decide) (by decide) (Nat.le_of_ble_eq_true rfl) rfl rfl rfl rfl ?_
              rcases Option.eq_none_or_eq_some (m_at (ma_t M k_e) n) with hk19 | ⟨k17, hk19⟩
              · refine jv_topI (y := (-1)) (by rw [hk19]; rfl) ?_
                refine jv_iconst (q := 79) (v := (-1)) G dX8_type_78 (by decide) rfl ?_
                refine jv_icmp_eq (q := 82) (tgt := 86) G dX8_type_79 (by decide) rfl (fun c20 => ?_) (fun c20 => ?_)
                · refine jv_aload_n (q := 87) G 1 dX8_type_86 rfl rfl rfl ?_
                  refine jv_getQ (q := 90) G dX8_type_87 fl_X8_13 rfl hS.1 (rf_p3 hS) rfl ?_
                  refine jv_iload_n (q := 91) G 2 dX8_type_90 rfl rfl rfl ?_
                  refine jv_iald (q := 92) G dX8_type_91 (rf_a3 hS) rfl (by omega) (by decide) (hD k_e (by omega)).2.1 rfl ?_
                  refine jv_bipush (q := 94) (v := nI 10) G dX8_type_92 (by decide) rfl ?_
                  refine jv_icmp_neN (q := 97) (tgt := 101) G dX8_type_94 (by decide) rfl (by omega) (by omega) (fun c21 => ?_) (fun c21 => ?_)
                  · refine jv_iconst (q := 102) (v := nI 0) G dX8_type_101 (by decide) rfl ?_
                    refine jv_putI (q := 105) G dX8_type_102 fl_X8_122 rfl hS.1 rfl ?_
                    have hr1 : rs x q h1 (jv_wI h1 x 0 (nI 0)) := rs.rf.wI (nI 0) (Or.inl ⟨rfl, Or.inl rfl⟩)
                    have hth : jv_I (jv_wI h1 x 0 (nI 0)) x 0 = (nI 0) := jv_I_self _ _ _ _
                    have hR := hr1.R hR
                    have hrs := hrs.tr hr1
                    generalize jv_wI h1 x 0 (nI 0) = h22 at hth hR hrs ⊢
                    obtain ⟨hS, ⟨hn8, hn⟩, ⟨hm12, hm⟩, hD, hV, hCs⟩ := id hR
                    have hsc : sc x q h22 h22 := sc.rf
                    have hE := (hD k_e (by omega)).2
                    refine jv_aload_n (q := 106) G 1 dX8_type_105 rfl rfl rfl ?_
                    refine jv_getI (q := 109) G dX8_type_106 fl_X8_122 rfl hS.1 hth rfl ?_
                    refine jv_if_leN (q := 112) (tgt := 114) G dX8_type_109 (by decide) rfl (by omega) (fun c23 => ?_) (fun c23 => ?_)
                    · have c2 : jv_I h22 (q 2) k_e = jv_bI false := (hD k_e (by omega)).1.trans (by rw [hse])
                      have c3 := (hD k_e (by omega)).2.1
                      have hF : FW (w_T1 k_e (ma_t M k_e).length) xcr x q h22 h22 := FW.rf
                      have hSn := hS
                      refine jv_bipush (q := 116) (v := nI 10) G dX8_type_114 (by decide) rfl ?_
                      refine jv_iload_n (q := 117) G 2 dX8_type_116 rfl rfl rfl ?_
                      refine jv_imulN (q := 118) G dX8_type_117 rfl ?_
                      refine jv_aload_n (q := 119) G 1 dX8_type_118 rfl rfl rfl ?_
                      refine jv_getQ (q := 122) G dX8_type_119 fl_X8_13 rfl hS.1 (rf_p3 hS) rfl ?_
                      refine jv_iload_n (q := 123) G 2 dX8_type_122 rfl rfl rfl ?_
                      refine jv_iald (q := 124) G dX8_type_123 (rf_a3 hS) rfl (by omega) (by decide) (hD k_e (by omega)).2.1 rfl ?_
                      refine jv_iaddN (q := 125) G dX8_type_124 rfl ?_
                      refine jv_istore (q := 127) (lo' := [(9, .int (nI ((10 * k_e) + ((ma_t M k_e).length)))), (8, .int (nI 1)), (0, .ref x), (1, .int (nI k_e)), (2, .int n), (3, .int (jv_bI false)), (4, .int (jv_bI a)), (5, .int p), (6, .int (jv_bI b)), (7, .int s)]) G dX8_type_125 (by decide) rfl rfl ?_
                      refine jv_aload_n (q := 128) G 2 dX8_type_127 rfl rfl rfl ?_
                      refine jv_getQ (q := 131) G dX8_type_128 fl_X8_13 rfl hS.1 (rf_p3 hS) rfl ?_
                      refine jv_iload_n (q := 132) G 3 dX8_type_131 rfl rfl rfl ?_
                      refine jv_dup2 (q := 133) G dX8_type_132 rfl rfl rfl ?_
                      refine jv_iald (q := 134) G dX8_type_133 (rf_a3 hS) rfl (by omega) (by decide) (hD k_e (by omega)).2.1 rfl ?_
                      refine jv_iconst (q := 135) (v := nI 1) G dX8_type_134 (by decide) rfl ?_
                      refine jv_iaddN (q := 136) G dX8_type_135 rfl ?_
                      refine jv_iast (q := 137) G dX8_type_136 (rf_a3 hS) rfl (by omega) (by decide) rfl ?_
                      have hF := hF.wq hS (k := 3) (j := k_e) (by decide) rfl (Or.inl ⟨rfl, rfl⟩) (nI (((ma_t M k_e).length) + 1))
                      have hSn2 := hF.S hS
                      have c2 := (qI_q hSn (k := 2) (k' := 3) (h := h22) (by decide) rfl (by decide) rfl (k_e) (k_e) (nI (((ma_t M k_e).length) + 1))).trans ((if_neg (fun e => absurd e.1 (by decide))).trans c2)
                      have hth := (xI_q hSn (k := 3) (h := h22) (by decide) rfl 0 (k_e) (nI (((ma_t M k_e).length) + 1))).trans hth
                      have c_3_24 : jv_I (jv_wI h22 (q 3) k_e (nI (((ma_t M k_e).length) + 1))) (q 3) (k_e) = nI (((ma_t M k_e).length) + 1) := jv_I_self _ _ _ _
                      generalize jv_wI h22 (q 3) k_e (nI (((ma_t M k_e).length) + 1)) = h24 at hF hSn2 c2 hth c_3_24 ⊢
                      clear hSn; have hSn := hSn2; clear hSn2
                      refine jv_aload_n (q := 138) G 2 dX8_type_137 rfl rfl rfl ?_
                      refine jv_getQ (q := 141) G dX8_type_138 fl_X8_17 rfl hSn.1 (rf_p4 hSn) rfl ?_
                      refine jv_iload (q := 143) G 0 dX8_type_141 rfl rfl ?_
                      refine jv_iload_n (q := 144) G 4 dX8_type_143 rfl rfl rfl ?_
                      refine jv_iast (q := 145) G dX8_type_144 (rf_a4 hSn) rfl (by omega) (by decide) rfl ?_
                      have hF := hF.wq hS (k := 4) (j := (10 * k_e) + ((ma_t M k_e).length)) (by decide) rfl (Or.inr (Or.inl ⟨by unfold k_t; omega, rfl⟩)) (n)
                      have hSn2 := hF.S hS
                      have c2 := (qI_q hSn (k := 2) (k' := 4) (h := h24) (by decide) rfl (by decide) rfl (k_e) ((10 * k_e) + ((ma_t M k_e).length)) (n)).trans ((if_neg (fun e => absurd e.1 (by decide))).trans c2)
                      have c_3_24 := (qI_q hSn (k := 3) (k' := 4) (h := h24) (by decide) rfl (by decide) rfl (k_e) ((10 * k_e) + ((ma_t M k_e).length)) (n)).trans ((if_neg (fun e => absurd e.1 (by decide))).trans c_3_24)
                      have hth := (xI_q hSn (k := 4) (h := h24) (by decide) rfl 0 ((10 * k_e) + ((ma_t M k_e).length)) (n)).trans hth
                      have c_4_25 : jv_I (jv_wI h24 (q 4) ((10 * k_e) + ((ma_t M k_e).length)) n) (q 4) ((10 * k_e) + ((ma_t M k_e).length)) = n := jv_I_self _ _ _ _
                      generalize jv_wI h24 (q 4) ((10 * k_e) + ((ma_t M k_e).length)) n = h25 at hF hSn2 c2 c_3_24 hth c_4_25 ⊢
                      clear hSn; have hSn := hSn2; clear hSn2
                      refine jv_aload_n (q := 146) G 2 dX8_type_145 rfl rfl rfl ?_
                      refine jv_getQ (q := 149) G dX8_type_146 fl_X8_20 rfl hSn.1 (rf_p5 hSn) rfl ?_
                      refine jv_iload (q := 151) G 0 dX8_type_149 rfl rfl ?_
                      refine jv_iload_n (q := 152) G 5 dX8_type_151 rfl rfl rfl ?_
                      refine jv_zast (q := 153) G dX8_type_152 (rf_a5 hSn) rfl (by omega) (by decide) rfl ?_
                      have hF := hF.wq hS (k := 5) (j := (10 * k_e) + ((ma_t M k_e).length)) (by decide) rfl (Or.inr (Or.inl ⟨by unfold k_t; omega, rfl⟩)) (jv_bI false)
                      have hSn2 := hF.S hS
                      have c2 := (qI_q hSn (k := 2) (k' := 5) (h := h25) (by decide) rfl (by decide) rfl (k_e) ((10 * k_e) + ((ma_t M k_e).length)) (jv_bI false)).trans ((if_neg (fun e => absurd e.1 (by decide))).trans c2)
                      have c_3_24 := (qI_q hSn (k := 3) (k' := 5) (h := h25) (by decide) rfl (by decide) rfl (k_e) ((10 * k_e) + ((ma_t M k_e).length)) (jv_bI false)).trans ((if_neg (fun e => absurd e.1 (by decide))).trans c_3_24)
                      have c_4_25 := (qI_q hSn (k := 4) (k' := 5) (h := h25) (by decide) rfl (by decide) rfl ((10 * k_e) + ((ma_t M k_e).length)) ((10 * k_e) + ((ma_t M k_e).length)) (jv_bI false)).trans ((if_neg (fun e => absurd e.1 (by decide))).trans c_4_25)
                      have hth := (xI_q hSn (k := 5) (h := h25) (by decide) rfl 0 ((10 * k_e) + ((ma_t M k_e).length)) (jv_bI false)).trans hth
                      have c_5_26 : jv_I (jv_wI h25 (q 5) ((10 * k_e) + ((ma_t M k_e).length)) (jv_bI false)) (q 5) ((10 * k_e) + ((ma_t M k_e).length)) = jv_bI false := jv_I_self _ _ _ _
                      generalize jv_wI h25 (q 5) ((10 * k_e) + ((ma_t M k_e).length)) (jv_bI false) = h26 at hF hSn2 c2 c_3_24 c_4_25 hth c_5_26 ⊢
                      clear hSn; have hSn := hSn2; clear hSn2
                      refine jv_aload_n (q := 154) G 2 dX8_type_153 rfl rfl rfl ?_
                      refine jv_getQ (q := 157) G dX8_type_154 fl_X8_23 rfl hSn.1 (rf_p6 hSn) rfl ?_
                      refine jv_iload (q := 159) G 0 dX8_type_157 rfl rfl ?_
                      refine jv_iload_n (q := 160) G 5 dX8_type_159 rfl rfl rfl ?_
                      refine jv_if_neB (q := 163) (tgt := 168) G dX8_type_160 (by decide) rfl (fun c27 => ?_) (fun c27 => ?_)
                      · cases c27
                      · refine jv_iload (q := 165) G 6 dX8_type_163 rfl rfl ?_
                        refine jv_if_eqB (q := 168) (tgt := 172) G dX8_type_165 (by decide) rfl (fun c28 => ?_) (fun c28 => ?_)
                        · subst c28
                          refine jv_iconst (q := 173) (v := nI 0) G dX8_type_172 (by decide) rfl ?_
                          refine jv_topI (y := jv_bI false) rfl ?_
                          refine jv_zast (q := 174) G dX8_type_173 (rf_a6 hSn) rfl (by omega) (by decide) rfl ?_
                          have hF := hF.wq hS (k := 6) (j := (10 * k_e) + ((ma_t M k_e).length)) (by decide) rfl (Or.inr (Or.inl ⟨by unfold k_t; omega, rfl⟩)) (jv_bI false)
                          have hSn2 := hF.S hS
                          have c2 := (qI_q hSn (k := 2) (k' := 6) (h := h26) (by decide) rfl (by decide) rfl (k_e) ((10 * k_e) + ((ma_t M k_e).length)) (jv_bI false)).trans ((if_neg (fun e => absurd e.1 (by decide))).trans c2)
                          have c_3_24 := (qI_q hSn (k := 3) (k' := 6) (h := h26) (by decide) rfl (by decide) rfl (k_e) ((10 * k_e) + ((ma_t M k_e).length)) (jv_bI false)).trans ((if_neg (fun e => absurd e.1 (by decide))).trans c_3_24)
                          have c_4_25 := (qI_q hSn (k := 4) (k' := 6) (h := h26) (by decide) rfl (by decide) rfl ((10 * k_e) + ((ma_t M k_e).length)) ((10 * k_e) + ((ma_t M k_e).length)) (jv_bI false)).trans ((if_neg (fun e => absurd e.1 (by decide))).trans c_4_25)
                          have c_5_26 := (qI_q hSn (k := 5) (k' := 6) (h := h26) (by decide) rfl (by decide) rfl ((10 * k_e) + ((ma_t M k_e).length)) ((10 * k_e) + ((ma_t M k_e).length)) (jv_bI false)).trans ((if_neg (fun e => absurd e.1 (by decide))).trans c_5_26)
                          have hth := (xI_q hSn (k := 6) (h := h26) (by decide) rfl 0 ((10 * k_e) + ((ma_t M k_e).length)) (jv_bI false)).trans hth
                          have c_6_29 : jv_I (jv_wI h26 (q 6) ((10 * k_e) + ((ma_t M k_e).length)) (jv_bI false)) (q 6) ((10 * k_e) + ((ma_t M k_e).length)) = jv_bI false := jv_I_self _ _ _ _
                          generalize jv_wI h26 (q 6) ((10 * k_e) + ((ma_t M k_e).length)) (jv_bI false) = h29 at hF hSn2 c2 c_3_24 c_4_25 c_5_26 hth c_6_29 ⊢
                          clear hSn; have hSn := hSn2; clear hSn2
                          refine jv_aload_n (q := 175) G 2 dX8_type_174 rfl rfl rfl ?_
                          refine jv_getQ (q := 178) G dX8_type_175 fl_X8_26 rfl hSn.1 (rf_p7 hSn) rfl ?_
                          refine jv_iload (q := 180) G 0 dX8_type_178 rfl rfl ?_
                          refine jv_iload (q := 182) G 7 dX8_type_180 rfl rfl ?_
                          refine jv_iast (q := 183) G dX8_type_182 (rf_a7 hSn) rfl (by omega) (by decide) rfl ?_
                          have hF := hF.wq hS (k := 7) (j := (10 * k_e) + ((ma_t M k_e).length)) (by decide) rfl (Or.inr (Or.inl ⟨by unfold k_t; omega, rfl⟩)) (p)
                          have hSn2 := hF.S hS
                          have c2 := (qI_q hSn (k := 2) (k' := 7) (h := h29) (by decide) rfl (by decide) rfl (k_e) ((10 * k_e) + ((ma_t M k_e).length)) (p)).trans ((if_neg (fun e => absurd e.1 (by decide))).trans c2)
                          have c_3_24 := (qI_q hSn (k := 3) (k' := 7) (h := h29) (by decide) rfl (by decide) rfl (k_e) ((10 * k_e) + ((ma_t M k_e).length)) (p)).trans ((if_neg (fun e => absurd e.1 (by decide))).trans c_3_24)
                          have c_4_25 := (qI_q hSn (k := 4) (k' := 7) (h := h29) (by decide) rfl (by decide) rfl ((10 * k_e) + ((ma_t M k_e).length)) ((10 * k_e) + ((ma_t M k_e).length)) (p)).trans ((if_neg (fun e => absurd e.1 (by decide))).trans c_4_25)
                          have c_5_26 := (qI_q hSn (k := 5) (k' := 7) (h := h29) (by decide) rfl (by decide) rfl ((10 * k_e) + ((ma_t M k_e).length)) ((10 * k_e) + ((ma_t M k_e).length)) (p)).trans ((if_neg (fun e => absurd e.1 (by decide))).trans c_5_26)
                          have c_6_29 := (qI_q hSn (k := 6) (k' := 7) (h := h29) (by decide) rfl (by decide) rfl ((10 * k_e) + ((ma_t M k_e).length)) ((10 * k_e) + ((ma_t M k_e).length)) (p)).trans ((if_neg (fun e => absurd e.1 (by decide))).trans c_6_29)
                          have hth := (xI_q hSn (k := 7) (h := h29) (by decide) rfl 0 ((10 * k_e) + ((ma_t M k_e).length)) (p)).trans hth
                          have c_7_30 : jv_I (jv_wI h29 (q 7) ((10 * k_e) + ((ma_t M k_e).length)) p) (q 7) ((10 * k_e) + ((ma_t M k_e).length)) = p := jv_I_self _ _ _ _
                          generalize jv_wI h29 (q 7) ((10 * k_e) + ((ma_t M k_e).length)) p = h30 at hF hSn2 c2 c_3_24 c_4_25 c_5_26 c_6_29 hth c_7_30 ⊢
                          clear hSn; have hSn := hSn2; clear hSn2
                          refine jv_aload_n (q := 184) G 2 dX8_type_183 rfl rfl rfl ?_
                          refine jv_getQ (q := 187) G dX8_type_184 fl_X8_29 rfl hSn.1 (rf_p8 hSn) rfl ?_
                          refine jv_iload (q := 189) G 0 dX8_type_187 rfl rfl ?_
                          refine jv_iload (q := 191) G 8 dX8_type_189 rfl rfl ?_
                          refine jv_zast (q := 192) G dX8_type_191 (rf_a8 hSn) rfl (by omega) (by decide) rfl ?_
                          have hF := hF.wq hS (k := 8) (j := (10 * k_e) + ((ma_t M k_e).length)) (by decide) rfl (Or.inr (Or.inl ⟨by unfold k_t; omega, rfl⟩)) (jv_bI b)
                          have hSn2 := hF.S hS
                          have c2 := (qI_q hSn (k := 2) (k' := 8) (h := h30) (by decide) rfl (by decide) rfl (k_e) ((10 * k_e) + ((ma_t M k_e).length)) (jv_bI b)).trans ((if_neg (fun e => absurd e.1 (by decide))).trans c2)
                          have c_3_24 := (qI_q hSn (k := 3) (k' := 8) (h := h30) (by decide) rfl (by decide) rfl (k_e) ((10 * k_e) + ((ma_t M k_e).length)) (jv_bI b)).trans ((if_neg (fun e => absurd e.1 (by decide))).trans c_3_24)
                          have c_4_25 := (qI_q hSn (k := 4) (k' := 8) (h := h30) (by decide) rfl (by decide) rfl ((10 * k_e) + ((ma_t M k_e).length)) ((10 * k_e) + ((ma_t M k_e).length)) (jv_bI b)).trans ((if_neg (fun e => absurd e.1 (by decide))).trans c_4_25)
                          have c_5_26 := (qI_q hSn (k := 5) (k' := 8) (h := h30) (by decide) rfl (by decide) rfl ((10 * k_e) + ((ma_t M k_e).length)) ((10 * k_e) + ((ma_t M k_e).length)) (jv_bI b)).trans ((if_neg (fun e => absurd e.1 (by decide))).trans c_5_26)
                          have c_6_29 := (qI_q hSn (k := 6) (k' := 8) (h := h30) (by decide) rfl (by decide) rfl ((10 * k_e) + ((ma_t M k_e).length)) ((10 * k_e) + ((ma_t M k_e).length)) (jv_bI b)).trans ((if_neg (fun e => absurd e.1 (by decide))).trans c_6_29)
                          have c_7_30 := (qI_q hSn (k := 7) (k' := 8) (h := h30) (by decide) rfl (by decide) rfl ((10 * k_e) + ((ma_t M k_e).length)) ((10 * k_e) + ((ma_t M k_e).length)) (jv_bI b)).trans ((if_neg (fun e => absurd e.1 (by decide))).trans c_7_30)
                          have hth := (xI_q hSn (k := 8) (h := h30) (by decide) rfl 0 ((10 * k_e) + ((ma_t M k_e).length)) (jv_bI b)).trans hth
                          have c_8_31 : jv_I (jv_wI h30 (q 8) ((10 * k_e) + ((ma_t M k_e).length)) (jv_bI b)) (q 8) ((10 * k_e) + ((ma_t M k_e).length)) = jv_bI b := jv_I_self _ _ _ _
                          generalize jv_wI h30 (q 8) ((10 * k_e) + ((ma_t M k_e).length)) (jv_bI b) = h31 at hF hSn2 c2 c_3_24 c_4_25 c_5_26 c_6_29 c_7_30 hth c_8_31 ⊢
                          clear hSn; have hSn := hSn2; clear hSn2
                          refine jv_aload_n (q := 193) G 2 dX8_type_192 rfl rfl rfl ?_
                          refine jv_getQ (q := 196) G dX8_type_193 fl_X8_32 rfl hSn.1 (rf_p9 hSn) rfl ?_
                          refine jv_iload (q := 198) G 0 dX8_type_196 rfl rfl ?_
                          refine jv_iload (q := 200) G 9 dX8_type_198 rfl rfl ?_
                          refine jv_iast (q := 201) G dX8_type_200 (rf_a9 hSn) rfl (by omega) (by decide) rfl ?_
                          have hF := hF.wq hS (k := 9) (j := (10 * k_e) + ((ma_t M k_e).length)) (by decide) rfl (Or.inr (Or.inl ⟨by unfold k_t; omega, rfl⟩)) (s)
                          have hSn2 := hF.S hS
                          have c2 := (qI_q hSn (k := 2) (k' := 9) (h := h31) (by decide) rfl (by decide) rfl (k_e) ((10 * k_e) + ((ma_t M k_e).length)) (s)).trans ((if_neg (fun e => absurd e.1 (by decide))).trans c2)
                          have c_3_24 := (qI_q hSn (k := 3) (k' := 9) (h := h31) (by decide) rfl (by decide) rfl (k_e) ((10 * k_e) + ((ma_t M k_e).length)) (s)).trans ((if_neg (fun e => absurd e.1 (by decide))).trans c_3_24)
                          have c_4_25 := (qI_q hSn (k := 4) (k' := 9) (h := h31) (by decide) rfl (by decide) rfl ((10 * k_e) + ((ma_t M k_e).length)) ((10 * k_e) + ((ma_t M k_e).length)) (s)).trans ((if_neg (fun e => absurd e.1 (by decide))).trans c_4_25)
                          have c_5_26 := (qI_q hSn (k := 5) (k' := 9) (h := h31) (by decide) rfl (by decide) rfl ((10 * k_e) + ((ma_t M k_e).length)) ((10 * k_e) + ((ma_t M k_e).length)) (s)).trans ((if_neg (fun e => absurd e.1 (by decide))).trans c_5_26)
                          have c_6_29 := (qI_q hSn (k := 6) (k' := 9) (h := h31) (by decide) rfl (by decide) rfl ((10 * k_e) + ((ma_t M k_e).length)) ((10 * k_e) + ((ma_t M k_e).length)) (s)).trans ((if_neg (fun e => absurd e.1 (by decide))).trans c_6_29)
                          have c_7_30 := (qI_q hSn (k := 7) (k' := 9) (h := h31) (by decide) rfl (by decide) rfl ((10 * k_e) + ((ma_t M k_e).length)) ((10 * k_e) + ((ma_t M k_e).length)) (s)).trans ((if_neg (fun e => absurd e.1 (by decide))).trans c_7_30)
                          have c_8_31 := (qI_q hSn (k := 8) (k' := 9) (h := h31) (by decide) rfl (by decide) rfl ((10 * k_e) + ((ma_t M k_e).length)) ((10 * k_e) + ((ma_t M k_e).length)) (s)).trans ((if_neg (fun e => absurd e.1 (by decide))).trans c_8_31)
                          have hth := (xI_q hSn (k := 9) (h := h31) (by decide) rfl 0 ((10 * k_e) + ((ma_t M k_e).length)) (s)).trans hth
                          have c_9_32 : jv_I (jv_wI h31 (q 9) ((10 * k_e) + ((ma_t M k_e).length)) s) (q 9) ((10 * k_e) + ((ma_t M k_e).length)) = s := jv_I_self _ _ _ _
                          generalize jv_wI h31 (q 9) ((10 * k_e) + ((ma_t M k_e).length)) s = h32 at hF hSn2 c2 c_3_24 c_4_25 c_5_26 c_6_29 c_7_30 c_8_31 hth c_9_32 ⊢
                          clear hSn; have hSn := hSn2; clear hSn2
                          refine jv_aload_n (q := 202) G 2 dX8_type_201 rfl rfl rfl ?_
                          refine jv_getQ (q := 205) G dX8_type_202 fl_X8_35 rfl hSn.1 (rf_p10 hSn) rfl ?_
                          refine jv_iload (q := 207) G 0 dX8_type_205 rfl rfl ?_
                          refine jv_iconst (q := 208) (v := nI 0) G dX8_type_207 (by decide) rfl ?_
                          refine jv_iast (q := 209) G dX8_type_208 (rf_a10 hSn) rfl (by omega) (by decide) rfl ?_
                          have hF := hF.wq hS (k := 10) (j := (10 * k_e) + ((ma_t M k_e).length)) (by decide) rfl (Or.inr (Or.inl ⟨by unfold k_t; omega, rfl⟩)) (nI 0)
                          have hSn2 := hF.S hS
                          have c2 := (qI_q hSn (k := 2) (k' := 10) (h := h32) (by decide) rfl (by decide) rfl (k_e) ((10 * k_e) + ((ma_t M k_e).length)) (nI 0)).trans ((if_neg (fun e => absurd e.1 (by decide))).trans c2)
                          have c_3_24 := (qI_q hSn (k := 3) (k' := 10) (h := h32) (by decide) rfl (by decide) rfl (k_e) ((10 * k_e) + ((ma_t M k_e).length)) (nI 0)).trans ((if_neg (fun e => absurd e.1 (by decide))).trans c_3_24)
                          have c_4_25 := (qI_q hSn (k := 4) (k' := 10) (h := h32) (by decide) rfl (by decide) rfl ((10 * k_e) + ((ma_t M k_e).length)) ((10 * k_e) + ((ma_t M k_e).length)) (nI 0)).trans ((if_neg (fun e => absurd e.1 (by decide))).trans c_4_25)
                          have c_5_26 := (qI_q hSn (k := 5) (k' := 10) (h := h32) (by decide) rfl (by decide) rfl ((10 * k_e) + ((ma_t M k_e).length)) ((10 * k_e) + ((ma_t M k_e).length)) (nI 0)).trans ((if_neg (fun e => absurd e.1 (by decide))).trans c_5_26)
                          have c_6_29 := (qI_q hSn (k := 6) (k' := 10) (h := h32) (by decide) rfl (by decide) rfl ((10 * k_e) + ((ma_t M k_e).length)) ((10 * k_e) + ((ma_t M k_e).length)) (nI 0)).trans ((if_neg (fun e => absurd e.1 (by decide))).trans c_6_29)
                          have c_7_30 := (qI_q hSn (k := 7) (k' := 10) (h := h32) (by decide) rfl (by decide) rfl ((10 * k_e) + ((ma_t M k_e).length)) ((10 * k_e) + ((ma_t M k_e).length)) (nI 0)).trans ((if_neg (fun e => absurd e.1 (by decide))).trans c_7_30)
                          have c_8_31 := (qI_q hSn (k := 8) (k' := 10) (h := h32) (by decide) rfl (by decide) rfl ((10 * k_e) + ((ma_t M k_e).length)) ((10 * k_e) + ((ma_t M k_e).length)) (nI 0)).trans ((if_neg (fun e => absurd e.1 (by decide))).trans c_8_31)
                          have c_9_32 := (qI_q hSn (k := 9) (k' := 10) (h := h32) (by decide) rfl (by decide) rfl ((10 * k_e) + ((ma_t M k_e).length)) ((10 * k_e) + ((ma_t M k_e).length)) (nI 0)).trans ((if_neg (fun e => absurd e.1 (by decide))).trans c_9_32)
                          have hth := (xI_q hSn (k := 10) (h := h32) (by decide) rfl 0 ((10 * k_e) + ((ma_t M k_e).length)) (nI 0)).trans hth
                          have c_10_33 : jv_I (jv_wI h32 (q 10) ((10 * k_e) + ((ma_t M k_e).length)) (nI 0)) (q 10) ((10 * k_e) + ((ma_t M k_e).length)) = nI 0 := jv_I_self _ _ _ _
                          generalize jv_wI h32 (q 10) ((10 * k_e) + ((ma_t M k_e).length)) (nI 0) = h33 at hF hSn2 c2 c_3_24 c_4_25 c_5_26 c_6_29 c_7_30 c_8_31 c_9_32 hth c_10_33 ⊢
                          clear hSn; have hSn := hSn2; clear hSn2
                          refine jv_aload_n (q := 210) G 2 dX8_type_209 rfl rfl rfl ?_
                          refine jv_getQ (q := 213) G dX8_type_210 fl_X8_41 rfl hSn.1 (rf_p12 hSn) rfl ?_
                          refine jv_iload (q := 215) G 0 dX8_type_213 rfl rfl ?_
                          refine jv_iconst (q := 216) (v := nI 0) G dX8_type_215 (by decide) rfl ?_
                          refine jv_iast (q := 217) G dX8_type_216 (rf_a12 hSn) rfl (by omega) (by decide) rfl ?_
                          have hF := hF.wq hS (k := 12) (j := (10 * k_e) + ((ma_t M k_e).length)) (by decide) rfl (Or.inr (Or.inl ⟨by unfold k_t; omega, rfl⟩)) (nI 0)
                          have hSn2 := hF.S hS
                          have c2 := (qI_q hSn (k := 2) (k' := 12) (h := h33) (by decide) rfl (by decide) rfl (k_e) ((10 * k_e) + ((ma_t M k_e).length)) (nI 0)).trans ((if_neg (fun e => absurd e.1 (by decide))).trans c2)
                          have c_3_24 := (qI_q hSn (k := 3) (k' := 12) (h := h33) (by decide) rfl (by decide) rfl (k_e) ((10 * k_e) + ((ma_t M k_e).length)) (nI 0)).trans ((if_neg (fun e => absurd e.1 (by decide))).trans c_3_24)
                          have c_4_25 := (qI_q hSn (k := 4) (k' := 12) (h := h33) (by decide) rfl (by decide) rfl ((10 * k_e) + ((ma_t M k_e).length)) ((10 * k_e) + ((ma_t M k_e).length)) (nI 0)).trans ((if_neg (fun e => absurd e.1 (by decide))).trans c_4_25)
                          have c_5_26 := (qI_q hSn (k := 5) (k' := 12) (h := h33) (by decide) rfl (by decide) rfl ((10 * k_e) + ((ma_t M k_e).length)) ((10 * k_e) + ((ma_t M k_e).length)) (nI 0)).trans ((if_neg (fun e => absurd e.1 (by decide))).trans c_5_26)
                          have c_6_29 := (qI_q hSn (k := 6) (k' := 12) (h := h33) (by decide) rfl (by decide) rfl ((10 * k_e) + ((ma_t M k_e).length)) ((10 * k_e) + ((ma_t M k_e).length)) (nI 0)).trans ((if_neg (fun e => absurd e.1 (by decide))).trans c_6_29)
                          have c_7_30 := (qI_q hSn (k := 7) (k' := 12) (h := h33) (by decide) rfl (by decide) rfl ((10 * k_e) + ((ma_t M k_e).length)) ((10 * k_e) + ((ma_t M k_e).length)) (nI 0)).trans ((if_neg (fun e => absurd e.1 (by decide))).trans c_7_30)
                          have c_8_31 := (qI_q hSn (k := 8) (k' := 12) (h := h33) (by decide) rfl (by decide) rfl ((10 * k_e) + ((ma_t M k_e).length)) ((10 * k_e) + ((ma_t M k_e).length)) (nI 0)).trans ((if_neg (fun e => absurd e.1 (by decide))).trans c_8_31)
                          have c_9_32 := (qI_q hSn (k := 9) (k' := 12) (h := h33) (by decide) rfl (by decide) rfl ((10 * k_e) + ((ma_t M k_e).length)) ((10 * k_e) + ((ma_t M k_e).length)) (nI 0)).trans ((if_neg (fun e => absurd e.1 (by decide))).trans c_9_32)
                          have c_10_33 := (qI_q hSn (k := 10) (k' := 12) (h := h33) (by decide) rfl (by decide) rfl ((10 * k_e) + ((ma_t M k_e).length)) ((10 * k_e) + ((ma_t M k_e).length)) (nI 0)).trans ((if_neg (fun e => absurd e.1 (by decide))).trans c_10_33)
                          have hth := (xI_q hSn (k := 12) (h := h33) (by decide) rfl 0 ((10 * k_e) + ((ma_t M k_e).length)) (nI 0)).trans hth
                          have c_12_34 : jv_I (jv_wI h33 (q 12) ((10 * k_e) + ((ma_t M k_e).length)) (nI 0)) (q 12) ((10 * k_e) + ((ma_t M k_e).length)) = nI 0 := jv_I_self _ _ _ _
                          generalize jv_wI h33 (q 12) ((10 * k_e) + ((ma_t M k_e).length)) (nI 0) = h34 at hF hSn2 c2 c_3_24 c_4_25 c_5_26 c_6_29 c_7_30 c_8_31 c_9_32 c_10_33 hth c_12_34 ⊢
                          clear hSn; have hSn := hSn2; clear hSn2
                          refine jv_aload_n (q := 218) G 2 dX8_type_217 rfl rfl rfl ?_
                          refine jv_getQ (q := 221) G dX8_type_218 fl_X8_13 rfl hSn.1 (rf_p3 hSn) rfl ?_
                          refine jv_iload_n (q := 222) G 3 dX8_type_221 rfl rfl rfl ?_
                          refine jv_iald (q := 223) G dX8_type_222 (rf_a3 hSn) rfl (by omega) (by decide) c_3_24 rfl ?_
                          refine jv_iret G hr dX8_type_223 (Nat.le_of_ble_eq_true rfl) (Nat.le_of_ble_eq_true rfl) ?_
                          have h10 : (ma_t M k_e).length < 10 := by omega
                          have hg : m_tyG n false p s = true := by
                            unfold m_tyG; simp only [*, if_true, if_false, Bool.false_eq_true, reduceIte, Bool.and_true, Bool.and_false, Bool.true_and, Bool.false_and, Bool.not_true, Bool.not_false, Bool.true_or, Bool.or_true, Bool.false_or, Option.isNone_some, Option.isNone_none, decide_true, decide_false]
                          have hT := rf_T.new (q := q) (i := false) c_4_25 c_5_26 c_6_29 c_7_30 c_8_31 c_9_32 c_10_33 c_12_34 hg
                          refine pO.mk (th := 0) (r := nI ((ma_t M k_e).length + 1)) (M' := m_put M k_e (false, (ma_t M k_e) ++ [_])) ?_ rfl hth (rf_R.ed hR hke hse (hF.mono (fun k j w => w_T1_E h10 w) (fun _ z => z)) c2 (hE.snoc hF c_3_24 h10 hT) (fun z => by cases z)) ((hrs.FW hS0).fr.tr hF.fr)
                          unfold m_ty
                          rw [m_op_yes zke hse, hg]
                          simp only [*, if_true, if_false, Bool.false_eq_true, reduceIte, Bool.and_true, Bool.and_false, Bool.true_and, Bool.false_and, Bool.not_true, Bool.not_false, Bool.true_or, Bool.or_true, Bool.false_or, Option.isNone_some, Option.isNone_none, decide_true, decide_false]
                          first | done | rfl
                        · subst c28
                          refine jv_iconst (q := 169) (v := nI 1) G dX8_type_168 (by decide) rfl ?_
                          refine jv_goto (q := 173) G dX8_type_169 (by decide) ?_
                          refine jv_topI (y := jv_bI true) rfl ?_
                          refine jv_zast (q := 174) G dX8_type_173 (rf_a6 hSn) rfl (by omega) (by decide) rfl ?_
                          have hF := hF.wq hS (k := 6) (j := (10 * k_e) + ((ma_t M k_e).length)) (by decide) rfl (Or.inr (Or.inl ⟨by unfold k_t; omega, rfl⟩)) (jv_bI true)
                          have hSn2 := hF.S hS
                          have c2 := (qI_q hSn (k := 2) (k' := 6) (h := h26) (by decide) rfl (by decide) rfl (k_e) ((10 * k_e) + ((ma_t M k_e).length)) (jv_bI true)).trans ((if_neg (fun e => absurd e.1 (by decide))).trans c2)
                          have c_3_24 := (qI_q hSn (k := 3) (k' := 6) (h := h26) (by decide) rfl (by decide) rfl (k_e) ((10 * k_e) + ((ma_t M k_e).length)) (jv_bI true)).trans ((if_neg (fun e => absurd e.1 (by decide))).trans c_3_24)
                          have c_4_25 := (qI_q hSn (k := 4) (k' := 6) (h := h26) (by decide) rfl (by decide) rfl ((10 * k_e) + ((ma_t M k_e).length)) ((10 * k_e) + ((ma_t M k_e).length)) (jv_bI true)).trans ((if_neg (fun e => absurd e.1 (by decide))).trans c_4_25)
                          have c_5_26 := (qI_q hSn (k := 5) (k' := 6) (h := h26) (by decide) rfl (by decide) rfl ((10 * k_e) + ((ma_t M k_e).length)) ((10 * k_e) + ((ma_t M k_e).length)) (jv_bI true)).trans ((if_neg (fun e => absurd e.1 (by decide))).trans c_5_26)
                          have hth := (xI_q hSn (k := 6) (h := h26) (by decide) rfl 0 ((10 * k_e) + ((ma_t M k_e).length)) (jv_bI true)).trans hth
                          have c_6_35 : jv_I (jv_wI h26 (q 6) ((10 * k_e) + ((ma_t M k_e).length)) (jv_bI true)) (q 6) ((10 * k_e) + ((ma_t M k_e).length)) = jv_bI true := jv_I_self _ _ _ _
                          generalize jv_wI h26 (q 6) ((10 * k_e) + ((ma_t M k_e).length)) (jv_bI true) = h35 at hF hSn2 c2 c_3_24 c_4_25 c_5_26 hth c_6_35 ⊢
                          clear hSn; have hSn := hSn2; clear hSn2
                          refine jv_aload_n (q := 175) G 2 dX8_type_174 rfl rfl rfl ?_
                          refine jv_getQ (q := 178) G dX8_type_175 fl_X8_26 rfl hSn.1 (rf_p7 hSn) rfl ?_
                          refine jv_iload (q := 180) G 0 dX8_type_178 rfl rfl ?_
                          refine jv_iload (q := 182) G 7 dX8_type_180 rfl rfl ?_
                          refine jv_iast (q := 183) G dX8_type_182 (rf_a7 hSn) rfl (by omega) (by decide) rfl ?_
                          have hF := hF.wq hS (k := 7) (j := (10 * k_e) + ((ma_t M k_e).length)) (by decide) rfl (Or.inr (Or.inl ⟨by unfold k_t; omega, rfl⟩)) (p)
                          have hSn2 := hF.S hS
                          have c2 := (qI_q hSn (k := 2) (k' := 7) (h := h35) (by decide) rfl (by decide) rfl (k_e) ((10 * k_e) + ((ma_t M k_e).length)) (p)).trans ((if_neg (fun e => absurd e.1 (by decide))).trans c2)
                          have c_3_24 := (qI_q hSn (k := 3) (k' := 7) (h := h35) (by decide) rfl (by decide) rfl (k_e) ((10 * k_e) + ((ma_t M k_e).length)) (p)).trans ((if_neg (fun e => absurd e.1 (by decide))).trans c_3_24)
                          have c_4_25 := (qI_q hSn (k := 4) (k' := 7) (h := h35) (by decide) rfl (by decide) rfl ((10 * k_e) + ((ma_t M k_e).length)) ((10 * k_e) + ((ma_t M k_e).length)) (p)).trans ((if_neg (fun e => absurd e.1 (by decide))).trans c_4_25)
                          have c_5_26 := (qI_q hSn (k := 5) (k' := 7) (h := h35) (by decide) rfl (by decide) rfl ((10 * k_e) + ((ma_t M k_e).length)) ((10 * k_e) + ((ma_t M k_e).length)) (p)).trans ((if_neg (fun e => absurd e.1 (by decide))).trans c_5_26)
                          have c_6_35 := (qI_q hSn (k := 6) (k' := 7) (h := h35) (by decide) rfl (by decide) rfl ((10 * k_e) + ((ma_t M k_e).length)) ((10 * k_e) + ((ma_t M k_e).length)) (p)).trans ((if_neg (fun e => absurd e.1 (by decide))).trans c_6_35)
                          have hth := (xI_q hSn (k := 7) (h := h35) (by decide) rfl 0 ((10 * k_e) + ((ma_t M k_e).length)) (p)).trans hth
                          have c_7_36 : jv_I (jv_wI h35 (q 7) ((10 * k_e) + ((ma_t M k_e).length)) p) (q 7) ((10 * k_e) + ((ma_t M k_e).length)) = p := jv_I_self _ _ _ _
                          generalize jv_wI h35 (q 7) ((10 * k_e) + ((ma_t M k_e).length)) p = h36 at hF hSn2 c2 c_3_24 c_4_25 c_5_26 c_6_35 hth c_7_36 ⊢
                          clear hSn; have hSn := hSn2; clear hSn2
                          refine jv_aload_n (q := 184) G 2 dX8_type_183 rfl rfl rfl ?_
                          refine jv_getQ (q := 187) G dX8_type_184 fl_X8_29 rfl hSn.1 (rf_p8 hSn) rfl ?_
                          refine jv_iload (q := 189) G 0 dX8_type_187 rfl rfl ?_
                          refine jv_iload (q := 191) G 8 dX8_type_189 rfl rfl ?_
                          refine jv_zast (q := 192) G dX8_type_191 (rf_a8 hSn) rfl (by omega) (by decide) rfl ?_
                          have hF := hF.wq hS (k := 8) (j := (10 * k_e) + ((ma_t M k_e).length)) (by decide) rfl (Or.inr (Or.inl ⟨by unfold k_t; omega, rfl⟩)) (jv_bI b)
                          have hSn2 := hF.S hS
                          have c2 := (qI_q hSn (k := 2) (k' := 8) (h := h36) (by decide) rfl (by decide) rfl (k_e) ((10 * k_e) + ((ma_t M k_e).length)) (jv_bI b)).trans ((if_neg (fun e => absurd e.1 (by decide))).trans c2)
                          have c_3_24 := (qI_q hSn (k := 3) (k' := 8) (h := h36) (by decide) rfl (by decide) rfl (k_e) ((10 * k_e) + ((ma_t M k_e).length)) (jv_bI b)).trans ((if_neg (fun e => absurd e.1 (by decide))).trans c_3_24)
                          have c_4_25 := (qI_q hSn (k := 4) (k' := 8) (h := h36) (by decide) rfl (by decide) rfl ((10 * k_e) + ((ma_t M k_e).length)) ((10 * k_e) + ((ma_t M k_e).length)) (jv_bI b)).trans ((if_neg (fun e => absurd e.1 (by decide))).trans c_4_25)
                          have c_5_26 := (qI_q hSn (k := 5) (k' := 8) (h := h36) (by decide) rfl (by decide) rfl ((10 * k_e) + ((ma_t M k_e).length)) ((10 * k_e) + ((ma_t M k_e).length)) (jv_bI b)).trans ((if_neg (fun e => absurd e.1 (by decide))).trans c_5_26)
                          have c_6_35 := (qI_q hSn (k := 6) (k' := 8) (h := h36) (by decide) rfl (by decide) rfl ((10 * k_e) + ((ma_t M k_e).length)) ((10 * k_e) + ((ma_t M k_e).length)) (jv_bI b)).trans ((if_neg (fun e => absurd e.1 (by decide))).trans c_6_35)
                          have c_7_36 := (qI_q hSn (k := 7) (k' := 8) (h := h36) (by decide) rfl (by decide) rfl ((10 * k_e) + ((ma_t M k_e).length)) ((10 * k_e) + ((ma_t M k_e).length)) (jv_bI b)).trans ((if_neg (fun e => absurd e.1 (by decide))).trans c_7_36)
                          have hth := (xI_q hSn (k := 8) (h := h36) (by decide) rfl 0 ((10 * k_e) + ((ma_t M k_e).length)) (jv_bI b)).trans hth
                          have c_8_37 : jv_I (jv_wI h36 (q 8) ((10 * k_e) + ((ma_t M k_e).length)) (jv_bI b)) (q 8) ((10 * k_e) + ((ma_t M k_e).length)) = jv_bI b := jv_I_self _ _ _ _
                          generalize jv_wI h36 (q 8) ((10 * k_e) + ((ma_t M k_e).length)) (jv_bI b) = h37 at hF hSn2 c2 c_3_24 c_4_25 c_5_26 c_6_35 c_7_36 hth c_8_37 ⊢
                          clear hSn; have hSn := hSn2; clear hSn2
                          refine jv_aload_n (q := 193) G 2 dX8_type_192 rfl rfl rfl ?_
                          refine jv_getQ (q := 196) G dX8_type_193 fl_X8_32 rfl hSn.1 (rf_p9 hSn) rfl ?_
                          refine jv_iload (q := 198) G 0 dX8_type_196 rfl rfl ?_
                          refine jv_iload (q := 200) G 9 dX8_type_198 rfl rfl ?_
                          refine jv_iast (q := 201) G dX8_type_200 (rf_a9 hSn) rfl (by omega) (by decide) rfl ?_
                          have hF := hF.wq hS (k := 9) (j := (10 * k_e) + ((ma_t M k_e).length)) (by decide) rfl (Or.inr (Or.inl ⟨by unfold k_t; omega, rfl⟩)) (s)
                          have hSn2 := hF.S hS
                          have c2 := (qI_q hSn (k := 2) (k' := 9) (h := h37) (by decide) rfl (by decide) rfl (k_e) ((10 * k_e) + ((ma_t M k_e).length)) (s)).trans ((if_neg (fun e => absurd e.1 (by decide))).trans c2)
                          have c_3_24 := (qI_q hSn (k := 3) (k' := 9) (h := h37) (by decide) rfl (by decide) rfl (k_e) ((10 * k_e) + ((ma_t M k_e).length)) (s)).trans ((if_neg (fun e => absurd e.1 (by decide))).trans c_3_24)
                          have c_4_25 := (qI_q hSn (k := 4) (k' := 9) (h := h37) (by decide) rfl (by decide) rfl ((10 * k_e) + ((ma_t M k_e).length)) ((10 * k_e) + ((ma_t M k_e).length)) (s)).trans ((if_neg (fun e => absurd e.1 (by decide))).trans c_4_25)
                          have c_5_26 := (qI_q hSn (k := 5) (k' := 9) (h := h37) (by decide) rfl (by decide) rfl ((10 * k_e) + ((ma_t M k_e).length)) ((10 * k_e) + ((ma_t M k_e).length)) (s)).trans ((if_neg (fun e => absurd e.1 (by decide))).trans c_5_26)
                          have c_6_35 := (qI_q hSn (k := 6) (k' := 9) (h := h37) (by decide) rfl (by decide) rfl ((10 * k_e) + ((ma_t M k_e).length)) ((10 * k_e) + ((ma_t M k_e).length)) (s)).trans ((if_neg (fun e => absurd e.1 (by decide))).trans c_6_35)
                          have c_7_36 := (qI_q hSn (k := 7) (k' := 9) (h := h37) (by decide) rfl (by decide) rfl ((10 * k_e) + ((ma_t M k_e).length)) ((10 * k_e) + ((ma_t M k_e).length)) (s)).trans ((if_neg (fun e => absurd e.1 (by decide))).trans c_7_36)
                          have c_8_37 := (qI_q hSn (k := 8) (k' := 9) (h := h37) (by decide) rfl (by decide) rfl ((10 * k_e) + ((ma_t M k_e).length)) ((10 * k_e) + ((ma_t M k_e).length)) (s)).trans ((if_neg (fun e => absurd e.1 (by decide))).trans c_8_37)
                          have hth := (xI_q hSn (k := 9) (h := h37) (by decide) rfl 0 ((10 * k_e) + ((ma_t M k_e).length)) (s)).trans hth
                          have c_9_38 : jv_I (jv_wI h37 (q 9) ((10 * k_e) + ((ma_t M k_e).length)) s) (q 9) ((10 * k_e) + ((ma_t M k_e).length)) = s := jv_I_self _ _ _ _
                          generalize jv_wI h37 (q 9) ((10 * k_e) + ((ma_t M k_e).length)) s = h38 at hF hSn2 c2 c_3_24 c_4_25 c_5_26 c_6_35 c_7_36 c_8_37 hth c_9_38 ⊢
                          clear hSn; have hSn := hSn2; clear hSn2
                          refine jv_aload_n (q := 202) G 2 dX8_type_201 rfl rfl rfl ?_
                          refine jv_getQ (q := 205) G dX8_type_202 fl_X8_35 rfl hSn.1 (rf_p10 hSn) rfl ?_
                          refine jv_iload (q := 207) G 0 dX8_type_205 rfl rfl ?_
                          refine jv_iconst (q := 208) (v := nI 0) G dX8_type_207 (by decide) rfl ?_
                          refine jv_iast (q := 209) G dX8_type_208 (rf_a10 hSn) rfl (by omega) (by decide) rfl ?_
                          have hF := hF.wq hS (k := 10) (j := (10 * k_e) + ((ma_t M k_e).length)) (by decide) rfl (Or.inr (Or.inl ⟨by unfold k_t; omega, rfl⟩)) (nI 0)
                          have hSn2 := hF.S hS
                          have c2 := (qI_q hSn (k := 2) (k' := 10) (h := h38) (by decide) rfl (by decide) rfl (k_e) ((10 * k_e) + ((ma_t M k_e).length)) (nI 0)).trans ((if_neg (fun e => absurd e.1 (by decide))).trans c2)
                          have c_3_24 := (qI_q hSn (k := 3) (k' := 10) (h := h38) (by decide) rfl (by decide) rfl (k_e) ((10 * k_e) + ((ma_t M k_e).length)) (nI 0)).trans ((if_neg (fun e => absurd e.1 (by decide))).trans c_3_24)
                          have c_4_25 := (qI_q hSn (k := 4) (k' := 10) (h := h38) (by decide) rfl (by decide) rfl ((10 * k_e) + ((ma_t M k_e).length)) ((10 * k_e) + ((ma_t M k_e).length)) (nI 0)).trans ((if_neg (fun e => absurd e.1 (by decide))).trans c_4_25)
                          have c_5_26 := (qI_q hSn (k := 5) (k' := 10) (h := h38) (by decide) rfl (by decide) rfl ((10 * k_e) + ((ma_t M k_e).length)) ((10 * k_e) + ((ma_t M k_e).length)) (nI 0)).trans ((if_neg (fun e => absurd e.1 (by decide))).trans c_5_26)
                          have c_6_35 := (qI_q hSn (k := 6) (k' := 10) (h := h38) (by decide) rfl (by decide) rfl ((10 * k_e) + ((ma_t M k_e).length)) ((10 * k_e) + ((ma_t M k_e).length)) (nI 0)).trans ((if_neg (fun e => absurd e.1 (by decide))).trans c_6_35)
                          have c_7_36 := (qI_q hSn (k := 7) (k' := 10) (h := h38) (by decide) rfl (by decide) rfl ((10 * k_e) + ((ma_t M k_e).length)) ((10 * k_e) + ((ma_t M k_e).length)) (nI 0)).trans ((if_neg (fun e => absurd e.1 (by decide))).trans c_7_36)
                          have c_8_37 := (qI_q hSn (k := 8) (k' := 10) (h := h38) (by decide) rfl (by decide) rfl ((10 * k_e) + ((ma_t M k_e).length)) ((10 * k_e) + ((ma_t M k_e).length)) (nI 0)).trans ((if_neg (fun e => absurd e.1 (by decide))).trans c_8_37)
                          have c_9_38 := (qI_q hSn (k := 9) (k' := 10) (h := h38) (by decide) rfl (by decide) rfl ((10 * k_e) + ((ma_t M k_e).length)) ((10 * k_e) + ((ma_t M k_e).length)) (nI 0)).trans ((if_neg (fun e => absurd e.1 (by decide))).trans c_9_38)
                          have hth := (xI_q hSn (k := 10) (h := h38) (by decide) rfl 0 ((10 * k_e) + ((ma_t M k_e).length)) (nI 0)).trans hth
                          have c_10_39 : jv_I (jv_wI h38 (q 10) ((10 * k_e) + ((ma_t M k_e).length)) (nI 0)) (q 10) ((10 * k_e) + ((ma_t M k_e).length)) = nI 0 := jv_I_self _ _ _ _
                          generalize jv_wI h38 (q 10) ((10 * k_e) + ((ma_t M k_e).length)) (nI 0) = h39 at hF hSn2 c2 c_3_24 c_4_25 c_5_26 c_6_35 c_7_36 c_8_37 c_9_38 hth c_10_39 ⊢
                          clear hSn; have hSn := hSn2; clear hSn2
                          refine jv_aload_n (q := 210) G 2 dX8_type_209 rfl rfl rfl ?_
                          refine jv_getQ (q := 213) G dX8_type_210 fl_X8_41 rfl hSn.1 (rf_p12 hSn) rfl ?_
                          refine jv_iload (q := 215) G 0 dX8_type_213 rfl rfl ?_
                          refine jv_iconst (q := 216) (v := nI 0) G dX8_type_215 (by decide) rfl ?_
                          refine jv_iast (q := 217) G dX8_type_216 (rf_a12 hSn) rfl (by omega) (by decide) rfl ?_
                          have hF := hF.wq hS (k := 12) (j := (10 * k_e) + ((ma_t M k_e).length)) (by decide) rfl (Or.inr (Or.inl ⟨by unfold k_t; omega, rfl⟩)) (nI 0)
                          have hSn2 := hF.S hS
                          have c2 := (qI_q hSn (k := 2) (k' := 12) (h := h39) (by decide) rfl (by decide) rfl (k_e) ((10 * k_e) + ((ma_t M k_e).length)) (nI 0)).trans ((if_neg (fun e => absurd e.1 (by decide))).trans c2)
                          have c_3_24 := (qI_q hSn (k := 3) (k' := 12) (h := h39) (by decide) rfl (by decide) rfl (k_e) ((10 * k_e) + ((ma_t M k_e).length)) (nI 0)).trans ((if_neg (fun e => absurd e.1 (by decide))).trans c_3_24)
                          have c_4_25 := (qI_q hSn (k := 4) (k' := 12) (h := h39) (by decide) rfl (by decide) rfl ((10 * k_e) + ((ma_t M k_e).length)) ((10 * k_e) + ((ma_t M k_e).length)) (nI 0)).trans ((if_neg (fun e => absurd e.1 (by decide))).trans c_4_25)
                          have c_5_26 := (qI_q hSn (k := 5) (k' := 12) (h := h39) (by decide) rfl (by decide) rfl ((10 * k_e) + ((ma_t M k_e).length)) ((10 * k_e) + ((ma_t M k_e).length)) (nI 0)).trans ((if_neg (fun e => absurd e.1 (by decide))).trans c_5_26)
                          have c_6_35 := (qI_q hSn (k := 6) (k' := 12) (h := h39) (by decide) rfl (by decide) rfl ((10 * k_e) + ((ma_t M k_e).length)) ((10 * k_e) + ((ma_t M k_e).length)) (nI 0)).trans ((if_neg (fun e => absurd e.1 (by decide))).trans c_6_35)
                          have c_7_36 := (qI_q hSn (k := 7) (k' := 12) (h := h39) (by decide) rfl (by decide) rfl ((10 * k_e) + ((ma_t M k_e).length)) ((10 * k_e) + ((ma_t M k_e).length)) (nI 0)).trans ((if_neg (fun e => absurd e.1 (by decide))).trans c_7_36)
                          have c_8_37 := (qI_q hSn (k := 8) (k' := 12) (h := h39) (by decide) rfl (by decide) rfl ((10 * k_e) + ((ma_t M k_e).length)) ((10 * k_e) + ((ma_t M k_e).length)) (nI 0)).trans ((if_neg (fun e => absurd e.1 (by decide))).trans c_8_37)
                          have c_9_38 := (qI_q hSn (k := 9) (k' := 12) (h := h39) (by decide) rfl (by decide) rfl ((10 * k_e) + ((ma_t M k_e).length)) ((10 * k_e) + ((ma_t M k_e).length)) (nI 0)).trans ((if_neg (fun e => absurd e.1 (by decide))).trans c_9_38)
                          have c_10_39 := (qI_q hSn (k := 10) (k' := 12) (h := h39) (by decide) rfl (by decide) rfl ((10 * k_e) + ((ma_t M k_e).length)) ((10 * k_e) + ((ma_t M k_e).length)) (nI 0)).trans ((if_neg (fun e => absurd e.1 (by decide))).trans c_10_39)
                          have hth := (xI_q hSn (k := 12) (h := h39) (by decide) rfl 0 ((10 * k_e) + ((ma_t M k_e).length)) (nI 0)).trans hth
                          have c_12_40 : jv_I (jv_wI h39 (q 12) ((10 * k_e) + ((ma_t M k_e).length)) (nI 0)) (q 12) ((10 * k_e) + ((ma_t M k_e).length)) = nI 0 := jv_I_self _ _ _ _
                          generalize jv_wI h39 (q 12) ((10 * k_e) + ((ma_t M k_e).length)) (nI 0) = h40 at hF hSn2 c2 c_3_24 c_4_25 c_5_26 c_6_35 c_7_36 c_8_37 c_9_38 c_10_39 hth c_12_40 ⊢
                          clear hSn; have hSn := hSn2; clear hSn2
                          refine jv_aload_n (q := 218) G 2 dX8_type_217 rfl rfl rfl ?_
                          refine jv_getQ (q := 221) G dX8_type_218 fl_X8_13 rfl hSn.1 (rf_p3 hSn) rfl ?_
                          refine jv_iload_n (q := 222) G 3 dX8_type_221 rfl rfl rfl ?_
                          refine jv_iald (q := 223) G dX8_type_222 (rf_a3 hSn) rfl (by omega) (by decide) c_3_24 rfl ?_
                          refine jv_iret G hr dX8_type_223 (Nat.le_of_ble_eq_true rfl) (Nat.le_of_ble_eq_true rfl) ?_
                          have h10 : (ma_t M k_e).length < 10 := by omega
                          have hg : m_tyG n false p s = true := by
                            unfold m_tyG; simp only [*, if_true, if_false, Bool.false_eq_true, reduceIte, Bool.and_true, Bool.and_false, Bool.true_and, Bool.false_and, Bool.not_true, Bool.not_false, Bool.true_or, Bool.or_true, Bool.false_or, Option.isNone_some, Option.isNone_none, decide_true, decide_false]
                          have hT := rf_T.new (q := q) (i := false) c_4_25 c_5_26 c_6_35 c_7_36 c_8_37 c_9_38 c_10_39 c_12_40 hg
                          refine pO.mk (th := 0) (r := nI ((ma_t M k_e).length + 1)) (M' := m_put M k_e (false, (ma_t M k_e) ++ [_])) ?_ rfl hth (rf_R.ed hR hke hse (hF.mono (fun k j w => w_T1_E h10 w) (fun _ z => z)) c2 (hE.snoc hF c_3_24 h10 hT) (fun z => by cases z)) ((hrs.FW hS0).fr.tr hF.fr)
                          unfold m_ty
                          rw [m_op_yes zke hse, hg]
                          simp only [*, if_true, if_false, Bool.false_eq_true, reduceIte, Bool.and_true, Bool.and_false, Bool.true_and, Bool.false_and, Bool.not_true, Bool.not_false, Bool.true_or, Bool.or_true, Bool.false_or, Option.isNone_some, Option.isNone_none, decide_true, decide_false]
                          first | done | rfl
                    · omega
                  · refine jv_iconst (q := 98) (v := nI 4) G dX8_type_97 (by decide) rfl ?_
                    refine jv_goto (q := 102) G dX8_type_98 (by decide) ?_
                    refine jv_putI (q := 105) G dX8_type_102 fl_X8_122 rfl hS.1 rfl ?_
                    have hr1 : rs x q h1 (jv_wI h1 x 0 (nI 4)) := rs.rf.wI (nI 4) (Or.inl ⟨rfl, Or.inl rfl⟩)
                    have hth : jv_I (jv_wI h1 x 0 (nI 4)) x 0 = (nI 4) := jv_I_self _ _ _ _
                    have hR := hr1.R hR
                    have hrs := hrs.tr hr1
                    generalize jv_wI h1 x 0 (nI 4) = h41 at hth hR hrs ⊢
                    obtain ⟨hS, ⟨hn8, hn⟩, ⟨hm12, hm⟩, hD, hV, hCs⟩ := id hR
                    have hsc : sc x q h41 h41 := sc.rf
                    have hE := (hD k_e (by omega)).2
                    refine jv_aload_n (q := 106) G 1 dX8_type_105 rfl rfl rfl ?_
                    refine jv_getI (q := 109) G dX8_type_106 fl_X8_122 rfl hS.1 hth rfl ?_
                    refine jv_if_leN (q := 112) (tgt := 114) G dX8_type_109 (by decide) rfl (by omega) (fun c42 => ?_) (fun c42 => ?_)
                    · omega
                    · refine jv_iconst (q := 113) (v := nI 0) G dX8_type_112 (by decide) rfl ?_
                      refine jv_iret G hr dX8_type_113 (Nat.le_of_ble_eq_true rfl) (Nat.le_of_ble_eq_true rfl) ?_
                      refine pO.no (M := M) hS0 ?_ rfl hth hR hrs
                      unfold m_ty; rw [m_op_yes zke hse]; unfold m_tyG
                      simp only [*, if_true, if_false, Bool.false_eq_true, reduceIte, Bool.and_true, Bool.and_false, Bool.true_and, Bool.false_and, Bool.not_true, Bool.not_false, Bool.true_or, Bool.or_true, Bool.false_or, Option.isNone_some, Option.isNone_none, decide_true, decide_false]
                · exact absurd rfl c20
              · refine jv_topI (y := nI (10 * k_e + k17)) (by rw [hk19]; rfl) ?_
                obtain ⟨t18, ht18, nt18, lt18⟩ := m_at_some hk19
                have Tt18 := (hE.2.2 k17 t18 ht18).1
                have Ot18 := (hE.2.2 k17 t18 ht18).2
                have Lt18 := hE.2.1
                have Bt18n := Ot18.1; have Bt18k := Ot18.2.1
                refine jv_iconst (q := 79) (v := (-1)) G dX8_type_78 (by decide) rfl ?_
                refine jv_icmp_eq (q := 82) (tgt := 86) G dX8_type_79 (by decide) rfl (fun c43 => ?_) (fun c43 => ?_)
                · exact absurd c43 (jv_nI_m1 (by omega))
                · refine jv_iconst (q := 83) (v := nI 3) G dX8_type_82 (by decide) rfl ?_
                  refine jv_goto (q := 102) G dX8_type_83 (by decide) ?_
                  refine jv_putI (q := 105) G dX8_type_102 fl_X8_122 rfl hS.1 rfl ?_
                  have hr1 : rs x q h1 (jv_wI h1 x 0 (nI 3)) := rs.rf.wI (nI 3) (Or.inl ⟨rfl, Or.inl rfl⟩)
                  have hth : jv_I (jv_wI h1 x 0 (nI 3)) x 0 = (nI 3) := jv_I_self _ _ _ _
                  have hR := hr1.R hR
                  have hrs := hrs.tr hr1
                  generalize jv_wI h1 x 0 (nI 3) = h44 at hth hR hrs ⊢
                  obtain ⟨hS, ⟨hn8, hn⟩, ⟨hm12, hm⟩, hD, hV, hCs⟩ := id hR
                  have hsc : sc x q h44 h44 := sc.rf
                  have hE := (hD k_e (by omega)).2
                  have Tt18 := (hE.2.2 k17 t18 ht18).1
                  refine jv_aload_n (q := 106) G 1 dX8_type_105 rfl rfl rfl ?_
                  refine jv_getI (q := 109) G dX8_type_106 fl_X8_122 rfl hS.1 hth rfl ?_
                  refine jv_if_leN (q := 112) (tgt := 114) G dX8_type_109 (by decide) rfl (by omega) (fun c45 => ?_) (fun c45 => ?_)
                  · omega
                  · refine jv_iconst (q := 113) (v := nI 0) G dX8_type_112 (by decide) rfl ?_
                    refine jv_iret G hr dX8_type_113 (Nat.le_of_ble_eq_true rfl) (Nat.le_of_ble_eq_true rfl) ?_
                    refine pO.no (M := M) hS0 ?_ rfl hth hR hrs
                    unfold m_ty; rw [m_op_yes zke hse]; unfold m_tyG
                    simp only [*, if_true, if_false, Bool.false_eq_true, reduceIte, Bool.and_true, Bool.and_false, Bool.true_and, Bool.false_and, Bool.not_true, Bool.not_false, Bool.true_or, Bool.or_true, Bool.false_or, Option.isNone_some, Option.isNone_none, decide_true, decide_false]
          · subst c15
            refine jv_iload (q := 55) G 7 dX8_type_53 rfl rfl ?_
            refine jv_iconst (q := 56) (v := (-1)) G dX8_type_55 (by decide) rfl ?_
            refine jv_icmp_ne (q := 59) (tgt := 63) G dX8_type_56 (by decide) rfl (fun c46 => ?_) (fun c46 => ?_)
            · refine jv_iconst (q := 64) (v := nI 0) G dX8_type_63 (by decide) rfl ?_
              refine jv_istore (q := 66) (lo' := [(8, .int (nI 0)), (0, .ref x), (1, .int (nI k_e)), (2, .int n), (3, .int (jv_bI true)), (4, .int (jv_bI a)), (5, .int p), (6, .int (jv_bI b)), (7, .int s)]) G dX8_type_64 (by decide) rfl rfl ?_
              refine jv_aload_n (q := 67) G 1 dX8_type_66 rfl rfl rfl ?_
              refine jv_iload (q := 69) G 0 dX8_type_67 rfl rfl ?_
              refine jv_if_eqN (q := 72) (tgt := 82) G dX8_type_69 (by decide) rfl (by omega) (fun c47 => ?_) (fun c47 => ?_)
              · refine jv_iconst (q := 83) (v := nI 3) G dX8_type_82 (by decide) rfl ?_
                refine jv_goto (q := 102) G dX8_type_83 (by decide) ?_
                refine jv_putI (q := 105) G dX8_type_102 fl_X8_122 rfl hS.1 rfl ?_
                have hr1 : rs x q h1 (jv_wI h1 x 0 (nI 3)) := rs.rf.wI (nI 3) (Or.inl ⟨rfl, Or.inl rfl⟩)
                have hth : jv_I (jv_wI h1 x 0 (nI 3)) x 0 = (nI 3) := jv_I_self _ _ _ _
                have hR := hr1.R hR
                have hrs := hrs.tr hr1
                generalize jv_wI h1 x 0 (nI 3) = h48 at hth hR hrs ⊢
                obtain ⟨hS, ⟨hn8, hn⟩, ⟨hm12, hm⟩, hD, hV, hCs⟩ := id hR
                have hsc : sc x q h48 h48 := sc.rf
                have hE := (hD k_e (by omega)).2
                refine jv_aload_n (q := 106) G 1 dX8_type_105 rfl rfl rfl ?_
                refine jv_getI (q := 109) G dX8_type_106 fl_X8_122 rfl hS.1 hth rfl ?_
                refine jv_if_leN (q := 112) (tgt := 114) G dX8_type_109 (by decide) rfl (by omega) (fun c49 => ?_) (fun c49 => ?_)
                · omega
                · refine jv_iconst (q := 113) (v := nI 0) G dX8_type_112 (by decide) rfl ?_
                  refine jv_iret G hr dX8_type_113 (Nat.le_of_ble_eq_true rfl) (Nat.le_of_ble_eq_true rfl) ?_
                  refine pO.no (M := M) hS0 ?_ rfl hth hR hrs
                  unfold m_ty; rw [m_op_yes zke hse]; unfold m_tyG
                  simp only [*, if_true, if_false, Bool.false_eq_true, reduceIte, Bool.and_true, Bool.and_false, Bool.true_and, Bool.false_and, Bool.not_true, Bool.not_false, Bool.true_or, Bool.or_true, Bool.false_or, Option.isNone_some, Option.isNone_none, decide_true, decide_false]
              · omega
            · subst c46
              refine jv_iconst (q := 60) (v := nI 1) G dX8_type_59 (by decide) rfl ?_
              refine jv_goto (q := 64) G dX8_type_60 (by decide) ?_
              refine jv_istore (q := 66) (lo' := [(8, .int (nI 1)), (0, .ref x), (1, .int (nI k_e)), (2, .int n), (3, .int (jv_bI true)), (4, .int (jv_bI a)), (5, .int p), (6, .int (jv_bI b)), (7, .int (-1))]) G dX8_type_64 (by decide) rfl rfl ?_
              refine jv_aload_n (q := 67) G 1 dX8_type_66 rfl rfl rfl ?_
              refine jv_iload (q := 69) G 0 dX8_type_67 rfl rfl ?_
              refine jv_if_eqN (q := 72) (tgt := 82) G dX8_type_69 (by decide) rfl (by omega) (fun c50 => ?_) (fun c50 => ?_)
              · omega
              · refine jv_aload_n (q := 73) G 1 dX8_type_72 rfl rfl rfl ?_
                refine jv_iload_n (q := 74) G 2 dX8_type_73 rfl rfl rfl ?_
                refine jv_iload_n (q := 75) G 3 dX8_type_74 rfl rfl rfl ?_
                refine jv_callV_I (q := 78) (h1 := h1) (As := [.int (nI k_e), .int n]) (rest := [.ref x]) (ce' := 0) (sl' := 0) (r := jv_oN ((m_at (ma_t M k_e) n).map (fun k => 10 * k_e + k))) G Z ml_X8_151 (r_at hlt (hsc.S hS) (by omega) (hsc.E hS hE)) hS.1 dX8_type_75 rfl (by decide) (by decide) (by decide) (by decide) (Nat.le_of_ble_eq_true rfl) rfl rfl rfl rfl ?_
                rcases Option.eq_none_or_eq_some (m_at (ma_t M k_e) n) with hk53 | ⟨k51, hk53⟩
                · refine jv_topI (y := (-1)) (by rw [hk53]; rfl) ?_
                  refine jv_iconst (q := 79) (v := (-1)) G dX8_type_78 (by decide) rfl ?_
                  refine jv_icmp_eq (q := 82) (tgt := 86) G dX8_type_79 (by decide) rfl (fun c54 => ?_) (fun c54 => ?_)
                  · refine jv_aload_n (q := 87) G 1 dX8_type_86 rfl rfl rfl ?_
                    refine jv_getQ (q := 90) G dX8_type_87 fl_X8_13 rfl hS.1 (rf_p3 hS) rfl ?_
                    refine jv_iload_n (q := 91) G 2 dX8_type_90 rfl rfl rfl ?_
                    refine jv_iald (q := 92) G dX8_type_91 (rf_a3 hS) rfl (by omega) (by decide) (hD k_e (by omega)).2.1 rfl ?_
                    refine jv_bipush (q := 94) (v := nI 10) G dX8_type_92 (by decide) rfl ?_
                    refine jv_icmp_neN (q := 97) (tgt := 101) G dX8_type_94 (by decide) rfl (by omega) (by omega) (fun c55 => ?_) (fun c55 => ?_)
                    · refine jv_iconst (q := 102) (v := nI 0) G dX8_type_101 (by decide) rfl ?_
                      refine jv_putI (q := 105) G dX8_type_102 fl_X8_122 rfl hS.1 rfl ?_
                      have hr1 : rs x q h1 (jv_wI h1 x 0 (nI 0)) := rs.rf.wI (nI 0) (Or.inl ⟨rfl, Or.inl rfl⟩)
                      have hth : jv_I (jv_wI h1 x 0 (nI 0)) x 0 = (nI 0) := jv_I_self _ _ _ _
                      have hR := hr1.R hR
                      have hrs := hrs.tr hr1
                      generalize jv_wI h1 x 0 (nI 0) = h56 at hth hR hrs ⊢
                      obtain ⟨hS, ⟨hn8, hn⟩, ⟨hm12, hm⟩, hD, hV, hCs⟩ := id hR
                      have hsc : sc x q h56 h56 := sc.rf
                      have hE := (hD k_e (by omega)).2
                      refine jv_aload_n (q := 106) G 1 dX8_type_105 rfl rfl rfl ?_
                      refine jv_getI (q := 109) G dX8_type_106 fl_X8_122 rfl hS.1 hth rfl ?_
                      refine jv_if_leN (q := 112) (tgt := 114) G dX8_type_109 (by decide) rfl (by omega) (fun c57 => ?_) (fun c57 => ?_)
                      · have c2 : jv_I h56 (q 2) k_e = jv_bI false := (hD k_e (by omega)).1.trans (by rw [hse])
                        have c3 := (hD k_e (by omega)).2.1
                        have hF : FW (w_T1 k_e (ma_t M k_e).length) xcr x q h56 h56 := FW.rf
                        have hSn := hS
                        refine jv_bipush (q := 116) (v := nI 10) G dX8_type_114 (by decide) rfl ?_
                        refine jv_iload_n (q := 117) G 2 dX8_type_116 rfl rfl rfl ?_
                        refine jv_imulN (q := 118) G dX8_type_117 rfl ?_
                        refine jv_aload_n (q := 119) G 1 dX8_type_118 rfl rfl rfl ?_
                        refine jv_getQ (q := 122) G dX8_type_119 fl_X8_13 rfl hS.1 (rf_p3 hS) rfl ?_
                        refine jv_iload_n (q := 123) G 2 dX8_type_122 rfl rfl rfl ?_
                        refine jv_iald (q := 124) G dX8_type_123 (rf_a3 hS) rfl (by omega) (by decide) (hD k_e (by omega)).2.1 rfl ?_
                        refine jv_iaddN (q := 125) G dX8_type_124 rfl ?_
                        refine jv_istore (q := 127) (lo' := [(9, .int (nI ((10 * k_e) + ((ma_t M k_e).length)))), (8, .int (nI 1)), (0, .ref x), (1, .int (nI k_e)), (2, .int n), (3, .int (jv_bI true)), (4, .int (jv_bI a)), (5, .int p), (6, .int (jv_bI b)), (7, .int (-1))]) G dX8_type_125 (by decide) rfl rfl ?_
                        refine jv_aload_n (q := 128) G 2 dX8_type_127 rfl rfl rfl ?_
                        refine jv_getQ (q := 131) G dX8_type_128 fl_X8_13 rfl hS.1 (rf_p3 hS) rfl ?_
                        refine jv_iload_n (q := 132) G 3 dX8_type_131 rfl rfl rfl ?_
                        refine jv_dup2 (q := 133) G dX8_type_132 rfl rfl rfl ?_
                        refine jv_iald (q := 134) G dX8_type_133 (rf_a3 hS) rfl (by omega) (by decide) (hD k_e (by omega)).2.1 rfl ?_
                        refine jv_iconst (q := 135) (v := nI 1) G dX8_type_134 (by decide) rfl ?_
                        refine jv_iaddN (q := 136) G dX8_type_135 rfl ?_
                        refine jv_iast (q := 137) G dX8_type_136 (rf_a3 hS) rfl (by omega) (by decide) rfl ?_
                        have hF := hF.wq hS (k := 3) (j := k_e) (by decide) rfl (Or.inl ⟨rfl, rfl⟩) (nI (((ma_t M k_e).length) + 1))
                        have hSn2 := hF.S hS
                        have c2 := (qI_q hSn (k := 2) (k' := 3) (h := h56) (by decide) rfl (by decide) rfl (k_e) (k_e) (nI (((ma_t M k_e).length) + 1))).trans ((if_neg (fun e => absurd e.1 (by decide))).trans c2)
                        have hth := (xI_q hSn (k := 3) (h := h56) (by decide) rfl 0 (k_e) (nI (((ma_t M k_e).length) + 1))).trans hth
                        have c_3_58 : jv_I (jv_wI h56 (q 3) k_e (nI (((ma_t M k_e).length) + 1))) (q 3) (k_e) = nI (((ma_t M k_e).length) + 1) := jv_I_self _ _ _ _
                        generalize jv_wI h56 (q 3) k_e (nI (((ma_t M k_e).length) + 1)) = h58 at hF hSn2 c2 hth c_3_58 ⊢
                        clear hSn; have hSn := hSn2; clear hSn2
                        refine jv_aload_n (q := 138) G 2 dX8_type_137 rfl rfl rfl ?_
                        refine jv_getQ (q := 141) G dX8_type_138 fl_X8_17 rfl hSn.1 (rf_p4 hSn) rfl ?_
                        refine jv_iload (q := 143) G 0 dX8_type_141 rfl rfl ?_
                        refine jv_iload_n (q := 144) G 4 dX8_type_143 rfl rfl rfl ?_
                        refine jv_iast (q := 145) G dX8_type_144 (rf_a4 hSn) rfl (by omega) (by decide) rfl ?_
                        have hF := hF.wq hS (k := 4) (j := (10 * k_e) + ((ma_t M k_e).length)) (by decide) rfl (Or.inr (Or.inl ⟨by unfold k_t; omega, rfl⟩)) (n)
                        have hSn2 := hF.S hS
                        have c2 := (qI_q hSn (k := 2) (k' := 4) (h := h58) (by decide) rfl (by decide) rfl (k_e) ((10 * k_e) + ((ma_t M k_e).length)) (n)).trans ((if_neg (fun e => absurd e.1 (by decide))).trans c2)
                        have c_3_58 := (qI_q hSn (k := 3) (k' := 4) (h := h58) (by decide) rfl (by decide) rfl (k_e) ((10 * k_e) + ((ma_t M k_e).length)) (n)).trans ((if_neg (fun e => absurd e.1 (by decide))).trans c_3_58)
                        have hth := (xI_q hSn (k := 4) (h := h58) (by decide) rfl 0 ((10 * k_e) + ((ma_t M k_e).length)) (n)).trans hth
                        have c_4_59 : jv_I (jv_wI h58 (q 4) ((10 * k_e) + ((ma_t M k_e).length)) n) (q 4) ((10 * k_e) + ((ma_t M k_e).length)) = n := jv_I_self _ _ _ _
                        generalize jv_wI h58 (q 4) ((10 * k_e) + ((ma_t M k_e).length)) n = h59 at hF hSn2 c2 c_3_58 hth c_4_59 ⊢
                        clear hSn; have hSn := hSn2; clear hSn2
                        refine jv_aload_n (q := 146) G 2 dX8_type_145 rfl rfl rfl ?_
                        refine jv_getQ (q := 149) G dX8_type_146 fl_X8_20 rfl hSn.1 (rf_p5 hSn) rfl ?_
                        refine jv_iload (q := 151) G 0 dX8_type_149 rfl rfl ?_
                        refine jv_iload_n (q := 152) G 5 dX8_type_151 rfl rfl rfl ?_
                        refine jv_zast (q := 153) G dX8_type_152 (rf_a5 hSn) rfl (by omega) (by decide) rfl ?_
                        have hF := hF.wq hS (k := 5) (j := (10 * k_e) + ((ma_t M k_e).length)) (by decide) rfl (Or.inr (Or.inl ⟨by unfold k_t; omega, rfl⟩)) (jv_bI true)
                        have hSn2 := hF.S hS
                        have c2 := (qI_q hSn (k := 2) (k' := 5) (h := h59) (by decide) rfl (by decide) rfl (k_e) ((10 * k_e) + ((ma_t M k_e).length)) (jv_bI true)).trans ((if_neg (fun e => absurd e.1 (by decide))).trans c2)
                        have c_3_58 := (qI_q hSn (k := 3) (k' := 5) (h := h59) (by decide) rfl (by decide) rfl (k_e) ((10 * k_e) + ((ma_t M k_e).length)) (jv_bI true)).trans ((if_neg (fun e => absurd e.1 (by decide))).trans c_3_58)
                        have c_4_59 := (qI_q hSn (k := 4) (k' := 5) (h := h59) (by decide) rfl (by decide) rfl ((10 * k_e) + ((ma_t M k_e).length)) ((10 * k_e) + ((ma_t M k_e).length)) (jv_bI true)).trans ((if_neg (fun e => absurd e.1 (by decide))).trans c_4_59)
                        have hth := (xI_q hSn (k := 5) (h := h59) (by decide) rfl 0 ((10 * k_e) + ((ma_t M k_e).length)) (jv_bI true)).trans hth
                        have c_5_60 : jv_I (jv_wI h59 (q 5) ((10 * k_e) + ((ma_t M k_e).length)) (jv_bI true)) (q 5) ((10 * k_e) + ((ma_t M k_e).length)) = jv_bI true := jv_I_self _ _ _ _
                        generalize jv_wI h59 (q 5) ((10 * k_e) + ((ma_t M k_e).length)) (jv_bI true) = h60 at hF hSn2 c2 c_3_58 c_4_59 hth c_5_60 ⊢
                        clear hSn; have hSn := hSn2; clear hSn2
                        refine jv_aload_n (q := 154) G 2 dX8_type_153 rfl rfl rfl ?_
                        refine jv_getQ (q := 157) G dX8_type_154 fl_X8_23 rfl hSn.1 (rf_p6 hSn) rfl ?_
                        refine jv_iload (q := 159) G 0 dX8_type_157 rfl rfl ?_
                        refine jv_iload_n (q := 160) G 5 dX8_type_159 rfl rfl rfl ?_
                        refine jv_if_neB (q := 163) (tgt := 168) G dX8_type_160 (by decide) rfl (fun c61 => ?_) (fun c61 => ?_)
                        · refine jv_iconst (q := 169) (v := nI 1) G dX8_type_168 (by decide) rfl ?_
                          refine jv_goto (q := 173) G dX8_type_169 (by decide) ?_
                          refine jv_topI (y := jv_bI true) rfl ?_
                          refine jv_zast (q := 174) G dX8_type_173 (rf_a6 hSn) rfl (by omega) (by decide) rfl ?_
                          have hF := hF.wq hS (k := 6) (j := (10 * k_e) + ((ma_t M k_e).length)) (by decide) rfl (Or.inr (Or.inl ⟨by unfold k_t; omega, rfl⟩)) (jv_bI true)
                          have hSn2 := hF.S hS
                          have c2 := (qI_q hSn (k := 2) (k' := 6) (h := h60) (by decide) rfl (by decide) rfl (k_e) ((10 * k_e) + ((ma_t M k_e).length)) (jv_bI true)).trans ((if_neg (fun e => absurd e.1 (by decide))).trans c2)
                          have c_3_58 := (qI_q hSn (k := 3) (k' := 6) (h := h60) (by decide) rfl (by decide) rfl (k_e) ((10 * k_e) + ((ma_t M k_e).length)) (jv_bI true)).trans ((if_neg (fun e => absurd e.1 (by decide))).trans c_3_58)
                          have c_4_59 := (qI_q hSn (k := 4) (k' := 6) (h := h60) (by decide) rfl (by decide) rfl ((10 * k_e) + ((ma_t M k_e).length)) ((10 * k_e) + ((ma_t M k_e).length)) (jv_bI true)).trans ((if_neg (fun e => absurd e.1 (by decide))).trans c_4_59)
                          have c_5_60 := (qI_q hSn (k := 5) (k' := 6) (h := h60) (by decide) rfl (by decide) rfl ((10 * k_e) + ((ma_t M k_e).length)) ((10 * k_e) + ((ma_t M k_e).length)) (jv_bI true)).trans ((if_neg (fun e => absurd e.1 (by decide))).trans c_5_60)
                          have hth := (xI_q hSn (k := 6) (h := h60) (by decide) rfl 0 ((10 * k_e) + ((ma_t M k_e).length)) (jv_bI true)).trans hth
                          have c_6_62 : jv_I (jv_wI h60 (q 6) ((10 * k_e) + ((ma_t M k_e).length)) (jv_bI true)) (q 6) ((10 * k_e) + ((ma_t M k_e).length)) = jv_bI true := jv_I_self _ _ _ _
                          generalize jv_wI h60 (q 6) ((10 * k_e) + ((ma_t M k_e).length)) (jv_bI true) = h62 at hF hSn2 c2 c_3_58 c_4_59 c_5_60 hth c_6_62 ⊢
                          clear hSn; have hSn := hSn2; clear hSn2
                          refine jv_aload_n (q := 175) G 2 dX8_type_174 rfl rfl rfl ?_
                          refine jv_getQ (q := 178) G dX8_type_175 fl_X8_26 rfl hSn.1 (rf_p7 hSn) rfl ?_
                          refine jv_iload (q := 180) G 0 dX8_type_178 rfl rfl ?_
                          refine jv_iload (q := 182) G 7 dX8_type_180 rfl rfl ?_
                          refine jv_iast (q := 183) G dX8_type_182 (rf_a7 hSn) rfl (by omega) (by decide) rfl ?_
                          have hF := hF.wq hS (k := 7) (j := (10 * k_e) + ((ma_t M k_e).length)) (by decide) rfl (Or.inr (Or.inl ⟨by unfold k_t; omega, rfl⟩)) (p)
                          have hSn2 := hF.S hS
                          have c2 := (qI_q hSn (k := 2) (k' := 7) (h := h62) (by decide) rfl (by decide) rfl (k_e) ((10 * k_e) + ((ma_t M k_e).length)) (p)).trans ((if_neg (fun e => absurd e.1 (by decide))).trans c2)
                          have c_3_58 := (qI_q hSn (k := 3) (k' := 7) (h := h62) (by decide) rfl (by decide) rfl (k_e) ((10 * k_e) + ((ma_t M k_e).length)) (p)).trans ((if_neg (fun e => absurd e.1 (by decide))).trans c_3_58)
                          have c_4_59 := (qI_q hSn (k := 4) (k' := 7) (h := h62) (by decide) rfl (by decide) rfl ((10 * k_e) + ((ma_t M k_e).length)) ((10 * k_e) + ((ma_t M k_e).length)) (p)).trans ((if_neg (fun e => absurd e.1 (by decide))).trans c_4_59)
                          have c_5_60 := (qI_q hSn (k := 5) (k' := 7) (h := h62) (by decide) rfl (by decide) rfl ((10 * k_e) + ((ma_t M k_e).length)) ((10 * k_e) + ((ma_t M k_e).length)) (p)).trans ((if_neg (fun e => absurd e.1 (by decide))).trans c_5_60)
                          have c_6_62 := (qI_q hSn (k := 6) (k' := 7) (h := h62) (by decide) rfl (by decide) rfl ((10 * k_e) + ((ma_t M k_e).length)) ((10 * k_e) + ((ma_t M k_e).length)) (p)).trans ((if_neg (fun e => absurd e.1 (by decide))).trans c_6_62)
                          have hth := (xI_q hSn (k := 7) (h := h62) (by decide) rfl 0 ((10 * k_e) + ((ma_t M k_e).length)) (p)).trans hth
                          have c_7_63 : jv_I (jv_wI h62 (q 7) ((10 * k_e) + ((ma_t M k_e).length)) p) (q 7) ((10 * k_e) + ((ma_t M k_e).length)) = p := jv_I_self _ _ _ _
                          generalize jv_wI h62 (q 7) ((10 * k_e) + ((ma_t M k_e).length)) p = h63 at hF hSn2 c2 c_3_58 c_4_59 c_5_60 c_6_62 hth c_7_63 ⊢
                          clear hSn; have hSn := hSn2; clear hSn2
                          refine jv_aload_n (q := 184) G 2 dX8_type_183 rfl rfl rfl ?_
                          refine jv_getQ (q := 187) G dX8_type_184 fl_X8_29 rfl hSn.1 (rf_p8 hSn) rfl ?_
                          refine jv_iload (q := 189) G 0 dX8_type_187 rfl rfl ?_
                          refine jv_iload (q := 191) G 8 dX8_type_189 rfl rfl ?_
                          refine jv_zast (q := 192) G dX8_type_191 (rf_a8 hSn) rfl (by omega) (by decide) rfl ?_
                          have hF := hF.wq hS (k := 8) (j := (10 * k_e) + ((ma_t M k_e).length)) (by decide) rfl (Or.inr (Or.inl ⟨by unfold k_t; omega, rfl⟩)) (jv_bI b)
                          have hSn2 := hF.S hS
                          have c2 := (qI_q hSn (k := 2) (k' := 8) (h := h63) (by decide) rfl (by decide) rfl (k_e) ((10 * k_e) + ((ma_t M k_e).length)) (jv_bI b)).trans ((if_neg (fun e => absurd e.1 (by decide))).trans c2)
                          have c_3_58 := (qI_q hSn (k := 3) (k' := 8) (h := h63) (by decide) rfl (by decide) rfl (k_e) ((10 * k_e) + ((ma_t M k_e).length)) (jv_bI b)).trans ((if_neg (fun e => absurd e.1 (by decide))).trans c_3_58)
                          have c_4_59 := (qI_q hSn (k := 4) (k' := 8) (h := h63) (by decide) rfl (by decide) rfl ((10 * k_e) + ((ma_t M k_e).length)) ((10 * k_e) + ((ma_t M k_e).length)) (jv_bI b)).trans ((if_neg (fun e => absurd e.1 (by decide))).trans c_4_59)
                          have c_5_60 := (qI_q hSn (k := 5) (k' := 8) (h := h63) (by decide) rfl (by decide) rfl ((10 * k_e) + ((ma_t M k_e).length)) ((10 * k_e) + ((ma_t M k_e).length)) (jv_bI b)).trans ((if_neg (fun e => absurd e.1 (by decide))).trans c_5_60)
                          have c_6_62 := (qI_q hSn (k := 6) (k' := 8) (h := h63) (by decide) rfl (by decide) rfl ((10 * k_e) + ((ma_t M k_e).length)) ((10 * k_e) + ((ma_t M k_e).length)) (jv_bI b)).trans ((if_neg (fun e => absurd e.1 (by decide))).trans c_6_62)
                          have c_7_63 := (qI_q hSn (k := 7) (k' := 8) (h := h63) (by decide) rfl (by decide) rfl ((10 * k_e) + ((ma_t M k_e).length)) ((10 * k_e) + ((ma_t M k_e).length)) (jv_bI b)).trans ((if_neg (fun e => absurd e.1 (by decide))).trans c_7_63)
                          have hth := (xI_q hSn (k := 8) (h := h63) (by decide) rfl 0 ((10 * k_e) + ((ma_t M k_e).length)) (jv_bI b)).trans hth
                          have c_8_64 : jv_I (jv_wI h63 (q 8) ((10 * k_e) + ((ma_t M k_e).length)) (jv_bI b)) (q 8) ((10 * k_e) + ((ma_t M k_e).length)) = jv_bI b := jv_I_self _ _ _ _
                          generalize jv_wI h63 (q 8) ((10 * k_e) + ((ma_t M k_e).length)) (jv_bI b) = h64 at hF hSn2 c2 c_3_58 c_4_59 c_5_60 c_6_62 c_7_63 hth c_8_64 ⊢
                          clear hSn; have hSn := hSn2; clear hSn2
                          refine jv_aload_n (q := 193) G 2 dX8_type_192 rfl rfl rfl ?_
                          refine jv_getQ (q := 196) G dX8_type_193 fl_X8_32 rfl hSn.1 (rf_p9 hSn) rfl ?_
                          refine jv_iload (q := 198) G 0 dX8_type_196 rfl rfl ?_
                          refine jv_iload (q := 200) G 9 dX8_type_198 rfl rfl ?_
                          refine jv_iast (q := 201) G dX8_type_200 (rf_a9 hSn) rfl (by omega) (by decide) rfl ?_
                          have hF := hF.wq hS (k := 9) (j := (10 * k_e) + ((ma_t M k_e).length)) (by decide) rfl (Or.inr (Or.inl ⟨by unfold k_t; omega, rfl⟩)) (-1)
                          have hSn2 := hF.S hS
                          have c2 := (qI_q hSn (k := 2) (k' := 9) (h := h64) (by decide) rfl (by decide) rfl (k_e) ((10 * k_e) + ((ma_t M k_e).length)) (-1)).trans ((if_neg (fun e => absurd e.1 (by decide))).trans c2)
                          have c_3_58 := (qI_q hSn (k := 3) (k' := 9) (h := h64) (by decide) rfl (by decide) rfl (k_e) ((10 * k_e) + ((ma_t M k_e).length)) (-1)).trans ((if_neg (fun e => absurd e.1 (by decide))).trans c_3_58)
                          have c_4_59 := (qI_q hSn (k := 4) (k' := 9) (h := h64) (by decide) rfl (by decide) rfl ((10 * k_e) + ((ma_t M k_e).length)) ((10 * k_e) + ((ma_t M k_e).length)) (-1)).trans ((if_neg (fun e => absurd e.1 (by decide))).trans c_4_59)
                          have c_5_60 := (qI_q hSn (k := 5) (k' := 9) (h := h64) (by decide) rfl (by decide) rfl ((10 * k_e) + ((ma_t M k_e).length)) ((10 * k_e) + ((ma_t M k_e).length)) (-1)).trans ((if_neg (fun e => absurd e.1 (by decide))).trans c_5_60)
                          have c_6_62 := (qI_q hSn (k := 6) (k' := 9) (h := h64) (by decide) rfl (by decide) rfl ((10 * k_e) + ((ma_t M k_e).length)) ((10 * k_e) + ((ma_t M k_e).length)) (-1)).trans ((if_neg (fun e => absurd e.1 (by decide))).trans c_6_62)
                          have c_7_63 := (qI_q hSn (k := 7) (k' := 9) (h := h64) (by decide) rfl (by decide) rfl ((10 * k_e) + ((ma_t M k_e).length)) ((10 * k_e) + ((ma_t M k_e).length)) (-1)).trans ((if_neg (fun e => absurd e.1 (by decide))).trans c_7_63)
                          have c_8_64 := (qI_q hSn (k := 8) (k' := 9) (h := h64) (by decide) rfl (by decide) rfl ((10 * k_e) + ((ma_t M k_e).length)) ((10 * k_e) + ((ma_t M k_e).length)) (-1)).trans ((if_neg (fun e => absurd e.1 (by decide))).trans c_8_64)
                          have hth := (xI_q hSn (k := 9) (h := h64) (by decide) rfl 0 ((10 * k_e) + ((ma_t M k_e).length)) (-1)).trans hth
                          have c_9_65 : jv_I (jv_wI h64 (q 9) ((10 * k_e) + ((ma_t M k_e).length)) (-1)) (q 9) ((10 * k_e) + ((ma_t M k_e).length)) = -1 := jv_I_self _ _ _ _
                          generalize jv_wI h64 (q 9) ((10 * k_e) + ((ma_t M k_e).length)) (-1) = h65 at hF hSn2 c2 c_3_58 c_4_59 c_5_60 c_6_62 c_7_63 c_8_64 hth c_9_65 ⊢
                          clear hSn; have hSn := hSn2; clear hSn2
                          refine jv_aload_n (q := 202) G 2 dX8_type_201 rfl rfl rfl ?_
                          refine jv_getQ (q := 205) G dX8_type_202 fl_X8_35 rfl hSn.1 (rf_p10 hSn) rfl ?_
                          refine jv_iload (q := 207) G 0 dX8_type_205 rfl rfl ?_
                          refine jv_iconst (q := 208) (v := nI 0) G dX8_type_207 (by decide) rfl ?_
                          refine jv_iast (q := 209) G dX8_type_208 (rf_a10 hSn) rfl (by omega) (by decide) rfl ?_
                          have hF := hF.wq hS (k := 10) (j := (10 * k_e) + ((ma_t M k_e).length)) (by decide) rfl (Or.inr (Or.inl ⟨by unfold k_t; omega, rfl⟩)) (nI 0)
                          have hSn2 := hF.S hS
                          have c2 := (qI_q hSn (k := 2) (k' := 10) (h := h65) (by decide) rfl (by decide) rfl (k_e) ((10 * k_e) + ((ma_t M k_e).length)) (nI 0)).trans ((if_neg (fun e => absurd e.1 (by decide))).trans c2)
                          have c_3_58 := (qI_q hSn (k := 3) (k' := 10) (h := h65) (by decide) rfl (by decide) rfl (k_e) ((10 * k_e) + ((ma_t M k_e).length)) (nI 0)).trans ((if_neg (fun e => absurd e.1 (by decide))).trans c_3_58)
                          have c_4_59 := (qI_q hSn (k := 4) (k' := 10) (h := h65) (by decide) rfl (by decide) rfl ((10 * k_e) + ((ma_t M k_e).length)) ((10 * k_e) + ((ma_t M k_e).length)) (nI 0)).trans ((if_neg (fun e => absurd e.1 (by decide))).trans c_4_59)
                          have c_5_60 := (qI_q hSn (k := 5) (k' := 10) (h := h65) (by decide) rfl (by decide) rfl ((10 * k_e) + ((ma_t M k_e).length)) ((10 * k_e) + ((ma_t M k_e).length)) (nI 0)).trans ((if_neg (fun e => absurd e.1 (by decide))).trans c_5_60)
                          have c_6_62 := (qI_q hSn (k := 6) (k' := 10) (h := h65) (by decide) rfl (by decide) rfl ((10 * k_e) + ((ma_t M k_e).length)) ((10 * k_e) + ((ma_t M k_e).length)) (nI 0)).trans ((if_neg (fun e => absurd e.1 (by decide))).trans c_6_62)
                          have c_7_63 := (qI_q hSn (k := 7) (k' := 10) (h := h65) (by decide) rfl (by decide) rfl ((10 * k_e) + ((ma_t M k_e).length)) ((10 * k_e) + ((ma_t M k_e).length)) (nI 0)).trans ((if_neg (fun e => absurd e.1 (by decide))).trans c_7_63)
                          have c_8_64 := (qI_q hSn (k := 8) (k' := 10) (h := h65) (by decide) rfl (by decide) rfl ((10 * k_e) + ((ma_t M k_e).length)) ((10 * k_e) + ((ma_t M k_e).length)) (nI 0)).trans ((if_neg (fun e => absurd e.1 (by decide))).trans c_8_64)
                          have c_9_65 := (qI_q hSn (k := 9) (k' := 10) (h := h65) (by decide) rfl (by decide) rfl ((10 * k_e) + ((ma_t M k_e).length)) ((10 * k_e) + ((ma_t M k_e).length)) (nI 0)).trans ((if_neg (fun e => absurd e.1 (by decide))).trans c_9_65)
                          have hth := (xI_q hSn (k := 10) (h := h65) (by decide) rfl 0 ((10 * k_e) + ((ma_t M k_e).length)) (nI 0)).trans hth
                          have c_10_66 : jv_I (jv_wI h65 (q 10) ((10 * k_e) + ((ma_t M k_e).length)) (nI 0)) (q 10) ((10 * k_e) + ((ma_t M k_e).length)) = nI 0 := jv_I_self _ _ _ _
                          generalize jv_wI h65 (q 10) ((10 * k_e) + ((ma_t M k_e).length)) (nI 0) = h66 at hF hSn2 c2 c_3_58 c_4_59 c_5_60 c_6_62 c_7_63 c_8_64 c_9_65 hth c_10_66 ⊢
                          clear hSn; have hSn := hSn2; clear hSn2
                          refine jv_aload_n (q := 210) G 2 dX8_type_209 rfl rfl rfl ?_
                          refine jv_getQ (q := 213) G dX8_type_210 fl_X8_41 rfl hSn.1 (rf_p12 hSn) rfl ?_
                          refine jv_iload (q := 215) G 0 dX8_type_213 rfl rfl ?_
                          refine jv_iconst (q := 216) (v := nI 0) G dX8_type_215 (by decide) rfl ?_
                          refine jv_iast (q := 217) G dX8_type_216 (rf_a12 hSn) rfl (by omega) (by decide) rfl ?_
                          have hF := hF.wq hS (k := 12) (j := (10 * k_e) + ((ma_t M k_e).length)) (by decide) rfl (Or.inr (Or.inl ⟨by unfold k_t; omega, rfl⟩)) (nI 0)
                          have hSn2 := hF.S hS
                          have c2 := (qI_q hSn (k := 2) (k' := 12) (h := h66) (by decide) rfl (by decide) rfl (k_e) ((10 * k_e) + ((ma_t M k_e).length)) (nI 0)).trans ((if_neg (fun e => absurd e.1 (by decide))).trans c2)
                          have c_3_58 := (qI_q hSn (k := 3) (k' := 12) (h := h66) (by decide) rfl (by decide) rfl (k_e) ((10 * k_e) + ((ma_t M k_e).length)) (nI 0)).trans ((if_neg (fun e => absurd e.1 (by decide))).trans c_3_58)
                          have c_4_59 := (qI_q hSn (k := 4) (k' := 12) (h := h66) (by decide) rfl (by decide) rfl ((10 * k_e) + ((ma_t M k_e).length)) ((10 * k_e) + ((ma_t M k_e).length)) (nI 0)).trans ((if_neg (fun e => absurd e.1 (by decide))).trans c_4_59)
                          have c_5_60 := (qI_q hSn (k := 5) (k' := 12) (h := h66) (by decide) rfl (by decide) rfl ((10 * k_e) + ((ma_t M k_e).length)) ((10 * k_e) + ((ma_t M k_e).length)) (nI 0)).trans ((if_neg (fun e => absurd e.1 (by decide))).trans c_5_60)
                          have c_6_62 := (qI_q hSn (k := 6) (k' := 12) (h := h66) (by decide) rfl (by decide) rfl ((10 * k_e) + ((ma_t M k_e).length)) ((10 * k_e) + ((ma_t M k_e).length)) (nI 0)).trans ((if_neg (fun e => absurd e.1 (by decide))).trans c_6_62)
                          have c_7_63 := (qI_q hSn (k := 7) (k' := 12) (h := h66) (by decide) rfl (by decide) rfl ((10 * k_e) + ((ma_t M k_e).length)) ((10 * k_e) + ((ma_t M k_e).length)) (nI 0)).trans ((if_neg (fun e => absurd e.1 (by decide))).trans c_7_63)
                          have c_8_64 := (qI_q hSn (k := 8) (k' := 12) (h := h66) (by decide) rfl (by decide) rfl ((10 * k_e) + ((ma_t M k_e).length)) ((10 * k_e) + ((ma_t M k_e).length)) (nI 0)).trans ((if_neg (fun e => absurd e.1 (by decide))).trans c_8_64)
                          have c_9_65 := (qI_q hSn (k := 9) (k' := 12) (h := h66) (by decide) rfl (by decide) rfl ((10 * k_e) + ((ma_t M k_e).length)) ((10 * k_e) + ((ma_t M k_e).length)) (nI 0)).trans ((if_neg (fun e => absurd e.1 (by decide))).trans c_9_65)
                          have c_10_66 := (qI_q hSn (k := 10) (k' := 12) (h := h66) (by decide) rfl (by decide) rfl ((10 * k_e) + ((ma_t M k_e).length)) ((10 * k_e) + ((ma_t M k_e).length)) (nI 0)).trans ((if_neg (fun e => absurd e.1 (by decide))).trans c_10_66)
                          have hth := (xI_q hSn (k := 12) (h := h66) (by decide) rfl 0 ((10 * k_e) + ((ma_t M k_e).length)) (nI 0)).trans hth
                          have c_12_67 : jv_I (jv_wI h66 (q 12) ((10 * k_e) + ((ma_t M k_e).length)) (nI 0)) (q 12) ((10 * k_e) + ((ma_t M k_e).length)) = nI 0 := jv_I_self _ _ _ _
                          generalize jv_wI h66 (q 12) ((10 * k_e) + ((ma_t M k_e).length)) (nI 0) = h67 at hF hSn2 c2 c_3_58 c_4_59 c_5_60 c_6_62 c_7_63 c_8_64 c_9_65 c_10_66 hth c_12_67 ⊢
                          clear hSn; have hSn := hSn2; clear hSn2
                          refine jv_aload_n (q := 218) G 2 dX8_type_217 rfl rfl rfl ?_
                          refine jv_getQ (q := 221) G dX8_type_218 fl_X8_13 rfl hSn.1 (rf_p3 hSn) rfl ?_
                          refine jv_iload_n (q := 222) G 3 dX8_type_221 rfl rfl rfl ?_
                          refine jv_iald (q := 223) G dX8_type_222 (rf_a3 hSn) rfl (by omega) (by decide) c_3_58 rfl ?_
                          refine jv_iret G hr dX8_type_223 (Nat.le_of_ble_eq_true rfl) (Nat.le_of_ble_eq_true rfl) ?_
                          have h10 : (ma_t M k_e).length < 10 := by omega
                          have hg : m_tyG n true p (-1) = true := by
                            unfold m_tyG; simp only [*, if_true, if_false, Bool.false_eq_true, reduceIte, Bool.and_true, Bool.and_false, Bool.true_and, Bool.false_and, Bool.not_true, Bool.not_false, Bool.true_or, Bool.or_true, Bool.false_or, Option.isNone_some, Option.isNone_none, decide_true, decide_false]
                          have hT := rf_T.new (q := q) (i := true) c_4_59 c_5_60 c_6_62 c_7_63 c_8_64 c_9_65 c_10_66 c_12_67 hg
                          refine pO.mk (th := 0) (r := nI ((ma_t M k_e).length + 1)) (M' := m_put M k_e (false, (ma_t M k_e) ++ [_])) ?_ rfl hth (rf_R.ed hR hke hse (hF.mono (fun k j w => w_T1_E h10 w) (fun _ z => z)) c2 (hE.snoc hF c_3_58 h10 hT) (fun z => by cases z)) ((hrs.FW hS0).fr.tr hF.fr)
                          unfold m_ty
                          rw [m_op_yes zke hse, hg]
                          simp only [*, if_true, if_false, Bool.false_eq_true, reduceIte, Bool.and_true, Bool.and_false, Bool.true_and, Bool.false_and, Bool.not_true, Bool.not_false, Bool.true_or, Bool.or_true, Bool.false_or, Option.isNone_some, Option.isNone_none, decide_true, decide_false]
                          first | done | rfl
                        · cases c61
                      · omega
                    · refine jv_iconst (q := 98) (v := nI 4) G dX8_type_97 (by decide) rfl ?_
                      refine jv_goto (q := 102) G dX8_type_98 (by decide) ?_
                      refine jv_putI (q := 105) G dX8_type_102 fl_X8_122 rfl hS.1 rfl ?_
                      have hr1 : rs x q h1 (jv_wI h1 x 0 (nI 4)) := rs.rf.wI (nI 4) (Or.inl ⟨rfl, Or.inl rfl⟩)
                      have hth : jv_I (jv_wI h1 x 0 (nI 4)) x 0 = (nI 4) := jv_I_self _ _ _ _
                      have hR := hr1.R hR
                      have hrs := hrs.tr hr1
                      generalize jv_wI h1 x 0 (nI 4) = h68 at hth hR hrs ⊢
                      obtain ⟨hS, ⟨hn8, hn⟩, ⟨hm12, hm⟩, hD, hV, hCs⟩ := id hR
                      have hsc : sc x q h68 h68 := sc.rf
                      have hE := (hD k_e (by omega)).2
                      refine jv_aload_n (q := 106) G 1 dX8_type_105 rfl rfl rfl ?_
                      refine jv_getI (q := 109) G dX8_type_106 fl_X8_122 rfl hS.1 hth rfl ?_
                      refine jv_if_leN (q := 112) (tgt := 114) G dX8_type_109 (by decide) rfl (by omega) (fun c69 => ?_) (fun c69 => ?_)
                      · omega
                      · refine jv_iconst (q := 113) (v := nI 0) G dX8_type_112 (by decide) rfl ?_
                        refine jv_iret G hr dX8_type_113 (Nat.le_of_ble_eq_true rfl) (Nat.le_of_ble_eq_true rfl) ?_
                        refine pO.no (M := M) hS0 ?_ rfl hth hR hrs
                        unfold m_ty; rw [m_op_yes zke hse]; unfold m_tyG
                        simp only [*, if_true, if_false, Bool.false_eq_true, reduceIte, Bool.and_true, Bool.and_false, Bool.true_and, Bool.false_and, Bool.not_true, Bool.not_false, Bool.true_or, Bool.or_true, Bool.false_or, Option.isNone_some, Option.isNone_none, decide_true, decide_false]
                  · exact absurd rfl c54
                · refine jv_topI (y := nI (10 * k_e + k51)) (by rw [hk53]; rfl) ?_
                  obtain ⟨t52, ht52, nt52, lt52⟩ := m_at_some hk53
                  have Tt52 := (hE.2.2 k51 t52 ht52).1
                  have Ot52 := (hE.2.2 k51 t52 ht52).2
                  have Lt52 := hE.2.1
                  have Bt52n := Ot52.1; have Bt52k := Ot52.2.1
                  refine jv_iconst (q := 79) (v := (-1)) G dX8_type_78 (by decide) rfl ?_
                  refine jv_icmp_eq (q := 82) (tgt := 86) G dX8_type_79 (by decide) rfl (fun c70 => ?_) (fun c70 => ?_)
                  · exact absurd c70 (jv_nI_m1 (by omega))
                  · refine jv_iconst (q := 83) (v := nI 3) G dX8_type_82 (by decide) rfl ?_
                    refine jv_goto (q := 102) G dX8_type_83 (by decide) ?_
                    refine jv_putI (q := 105) G dX8_type_102 fl_X8_122 rfl hS.1 rfl ?_
                    have hr1 : rs x q h1 (jv_wI h1 x 0 (nI 3)) := rs.rf.wI (nI 3) (Or.inl ⟨rfl, Or.inl rfl⟩)
                    have hth : jv_I (jv_wI h1 x 0 (nI 3)) x 0 = (nI 3) := jv_I_self _ _ _ _
                    have hR := hr1.R hR
                    have hrs := hrs.tr hr1
                    generalize jv_wI h1 x 0 (nI 3) = h71 at hth hR hrs ⊢
                    obtain ⟨hS, ⟨hn8, hn⟩, ⟨hm12, hm⟩, hD, hV, hCs⟩ := id hR
                    have hsc : sc x q h71 h71 := sc.rf
                    have hE := (hD k_e (by omega)).2
                    have Tt52 := (hE.2.2 k51 t52 ht52).1
                    refine jv_aload_n (q := 106) G 1 dX8_type_105 rfl rfl rfl ?_
                    refine jv_getI (q := 109) G dX8_type_106 fl_X8_122 rfl hS.1 hth rfl ?_
                    refine jv_if_leN (q := 112) (tgt := 114) G dX8_type_109 (by decide) rfl (by omega) (fun c72 => ?_) (fun c72 => ?_)
                    · omega
                    · refine jv_iconst (q := 113) (v := nI 0) G dX8_type_112 (by decide) rfl ?_
                      refine jv_iret G hr dX8_type_113 (Nat.le_of_ble_eq_true rfl) (Nat.le_of_ble_eq_true rfl) ?_
                      refine pO.no (M := M) hS0 ?_ rfl hth hR hrs
                      unfold m_ty; rw [m_op_yes zke hse]; unfold m_tyG
                      simp only [*, if_true, if_false, Bool.false_eq_true, reduceIte, Bool.and_true, Bool.and_false, Bool.true_and, Bool.false_and, Bool.not_true, Bool.not_false, Bool.true_or, Bool.or_true, Bool.false_or, Option.isNone_some, Option.isNone_none, decide_true, decide_false]
  · refine jv_iconst (q := 17) (v := nI 0) G dX8_type_16 (by decide) rfl ?_
    refine jv_iret G hr dX8_type_17 (Nat.le_of_ble_eq_true rfl) (Nat.le_of_ble_eq_true rfl) ?_
    refine pO.no (M := M) hS0 ?_ rfl hth hR hrs
    exact m_op_no c2
