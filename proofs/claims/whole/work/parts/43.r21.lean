def m_tF (t : mT) (l : List Nat) : mT := (t.1, t.2.1, t.2.2.1, t.2.2.2.1, t.2.2.2.2.1, t.2.2.2.2.2.1, l, t.2.2.2.2.2.2.2)
def m_tM (t : mT) (l : List mM) : mT := (t.1, t.2.1, t.2.2.1, t.2.2.2.1, t.2.2.2.2.1, t.2.2.2.2.2.1, t.2.2.2.2.2.2.1, l)
/-- what is done with the type named n of an open edition -/
def m_opT (M : mA) (e n : Int32) (z : Nat × Int32 × mA) (f : Nat → Nat → mT → Nat × Int32 × mA) : Nat × Int32 × mA := m_op M e (fun k => match m_at (ma_t M k) n with
  | none => z
  | some i => match (ma_t M k)[i]? with
    | none => z
    | some t => f k i t)
theorem m_opT_no {M : mA} {e n : Int32} {z : Nat × Int32 × mA} {f : Nat → Nat → mT → Nat × Int32 × mA} (h : ¬ m_opF M e = 0) : m_opT M e n z f = (m_opF M e, 0, M) := m_op_no h
theorem m_opT_none {M : mA} {e n : Int32} {k : Nat} {z : Nat × Int32 × mA} {f : Nat → Nat → mT → Nat × Int32 × mA} (h : m_ix1 M.1.length e = some k) (hs : ma_s M k = false) (ha : m_at (ma_t M k) n = none) : m_opT M e n z f = z := by
  unfold m_opT
  rw [m_op_yes h hs, ha]
theorem m_opT_yes {M : mA} {e n : Int32} {k i : Nat} {t : mT} {z : Nat × Int32 × mA} {f : Nat → Nat → mT → Nat × Int32 × mA} (h : m_ix1 M.1.length e = some k) (hs : ma_s M k = false) (ha : m_at (ma_t M k) n = some i) (ht : (ma_t M k)[i]? = some t) : m_opT M e n z f = f k i t := by
  unfold m_opT
  rw [m_op_yes h hs, ha]
  dsimp only
  rw [ht]
def m_fi (t : mT) (v : Int32) : Bool := (mt_f t).any (fun z => decide (nI z = v))
def m_im (M : mA) (e n v : Int32) : Nat × Int32 × mA := m_opT M e n (3, 0, M) (fun k i t => if rr_in v (nI 0) (nI 15) && !m_fi t v then if (mt_f t).length = 3 then (4, 0, M) else (0, nI ((mt_f t).length + 1), m_put M k (false, (ma_t M k).set i (m_tF t (mt_f t ++ [v.toNatClampNeg])))) else (3, 0, M))
theorem m_fi_n {t : mT} {v : Int32} (h : ∀ j z : Nat, (mt_f t)[j]? = some z → ¬ nI z = v) : m_fi t v = false := by
  unfold m_fi
  rw [List.any_eq_false]
  intro z hz
  obtain ⟨j, hj⟩ := List.getElem?_of_mem hz
  simpa using h j z hj
theorem m_fi_y {t : mT} {v : Int32} {j z : Nat} (h : (mt_f t)[j]? = some z) (e : nI z = v) : m_fi t v = true := by
  unfold m_fi
  rw [List.any_eq_true]
  exact ⟨z, List.mem_of_getElem? h, by simpa using e⟩
/-- a row of a type: interfaces or members anew -/
theorem rf_T.cF {x : Nat} {q : Nat → Nat} {h0 h : jv_H} {X : Nat → Prop} {i : Nat} {t : mT} {v : Int32} (r : rf_T q h0 i t) (ho : mt_ok t) (hl : (mt_f t).length < 3) (a : FW (fun k j => (k = 10 ∧ j = i) ∨ (k = 11 ∧ j = 3 * i + (mt_f t).length)) X x q h0 h) (h10 : jv_I h (q 10) i = nI ((mt_f t).length + 1)) (h11 : jv_I h (q 11) (3 * i + (mt_f t).length) = v) (hv : rr_in v (nI 0) (nI 15) = true) : rf_T q h i (m_tF t (mt_f t ++ [v.toNatClampNeg])) ∧ mt_ok (m_tF t (mt_f t ++ [v.toNatClampNeg])) := by
  have hv := in_N (by decide) hv
  refine ⟨⟨(a.aq 4 i (by omega)).trans r.1, (a.aq 5 i (by omega)).trans r.2.1, (a.aq 6 i (by omega)).trans r.2.2.1, (a.aq 7 i (by omega)).trans r.2.2.2.1, (a.aq 8 i (by omega)).trans r.2.2.2.2.1, (a.aq 9 i (by omega)).trans r.2.2.2.2.2.1, ?_, (a.aq 12 i (by omega)).trans r.2.2.2.2.2.2.2.1, fun j w e => ?_, fun j m e => ?_⟩, ho.1, ho.2.1, ho.2.2.1, ?_, fun w hw => ?_, ho.2.2.2.2.2⟩
  · rw [h10]; exact congrArg nI (by simp [m_tF, mt_f])
  · have e : (mt_f t ++ [v.toNatClampNeg])[j]? = some w := e
    by_cases hj : j = (mt_f t).length
    · subst hj
      rw [List.getElem?_append_right (Nat.le_refl _), Nat.sub_self] at e
      cases e
      exact h11.trans hv.2
    · have h1 := jv_ltGet e
      rw [List.length_append, List.length_singleton] at h1
      rw [List.getElem?_append_left (by omega)] at e
      exact (a.aq 11 _ (by omega)).trans (rt_11 r e)
  · exact a.M (fun k j' o z => by unfold o_M k_m at o; omega) (rt_m r e)
  · show (mt_f t ++ [v.toNatClampNeg]).length ≤ 3
    rw [List.length_append, List.length_singleton]; omega
  · have hw : w ∈ mt_f t ++ [v.toNatClampNeg] := hw
    rw [List.mem_append, List.mem_singleton] at hw
    rcases hw with hw | hw
    · exact ho.2.2.2.2.1 w hw
    · subst hw; exact Nat.lt_succ_of_le hv.1
set_option maxHeartbeats 4000000 in
set_option maxRecDepth 100000 in
theorem r_im_loop {E : jv_E} {x : Nat} {q : Nat → Nat} {h : jv_H} {k_e i : Nat} {t : mT} {v : Int32} {Q : State → Prop} (G : jv_C E cX8_implement RX8 7) (hS : rf_S x q h) (hk : k_e < 8) (hi : i < 10) (hT : rf_T q h (10 * k_e + i) t) (ho : mt_ok t) (hK1 : m_fi t v = false → jv_V E 7 h 0 0 Q 98 [(5, .int (nI 1)), (4, .int (nI (10 * k_e + i))), (0, .ref x), (3, .int v)] []) (hK0 : m_fi t v = true → jv_V E 7 h 0 0 Q 98 [(5, .int (nI 0)), (4, .int (nI (10 * k_e + i))), (0, .ref x), (3, .int v)] []) : ∀ (m j : Nat), j + m = (mt_f t).length → (∀ j' z, j' < j → (mt_f t)[j']? = some z → ¬ nI z = v) → jv_V E 7 h 0 0 Q 52 [(6, .int (nI j)), (5, .int (nI 1)), (4, .int (nI (10 * k_e + i))), (0, .ref x), (3, .int v)] [] := by
  have hl3 := ho.2.2.2.1
  intro m
  induction m with
  | zero =>
    intro j hm hj
    refine jv_iload (q := 54) G 1 dX8_implement_52 rfl rfl ?_
    refine jv_if_eqN (q := 57) (tgt := 98) G dX8_implement_54 (by decide) rfl (by omega) (fun c1 => ?_) (fun c1 => ?_)
    · omega
    · refine jv_iload (q := 59) G 0 dX8_implement_57 rfl rfl ?_
      refine jv_aload_n (q := 60) G 3 dX8_implement_59 rfl rfl rfl ?_
      refine jv_getQ (q := 63) G dX8_implement_60 fl_X8_35 rfl hS.1 (rf_p10 hS) rfl ?_
      refine jv_iload (q := 65) G 2 dX8_implement_63 rfl rfl ?_
      refine jv_iald (q := 66) G dX8_implement_65 (rf_a10 hS) rfl (by omega) (by decide) (rt_10 hT) rfl ?_
      refine jv_icmp_geN (q := 69) (tgt := 98) G dX8_implement_66 (by decide) rfl (by omega) (by omega) (fun c2 => ?_) (fun c2 => ?_)
      · refine jv_lo [1, 2, 3, 4] (lo' := [(5, .int (nI 1)), (4, .int (nI (10 * k_e + i))), (0, .ref x), (3, .int v)]) rfl ?_
        exact hK1 (m_fi_n (fun j' z hz => hj j' z (by have := jv_ltGet hz; omega) hz))
      · omega
  | succ m ih =>
    intro j hm hj
    obtain ⟨y, hy⟩ := jv_getLt (l := mt_f t) (k := j) (by omega)
    have hy11 := rt_11 hT hy
    refine jv_iload (q := 54) G 1 dX8_implement_52 rfl rfl ?_
    refine jv_if_eqN (q := 57) (tgt := 98) G dX8_implement_54 (by decide) rfl (by omega) (fun c1 => ?_) (fun c1 => ?_)
    · omega
    · refine jv_iload (q := 59) G 0 dX8_implement_57 rfl rfl ?_
      refine jv_aload_n (q := 60) G 3 dX8_implement_59 rfl rfl rfl ?_
      refine jv_getQ (q := 63) G dX8_implement_60 fl_X8_35 rfl hS.1 (rf_p10 hS) rfl ?_
      refine jv_iload (q := 65) G 2 dX8_implement_63 rfl rfl ?_
      refine jv_iald (q := 66) G dX8_implement_65 (rf_a10 hS) rfl (by omega) (by decide) (rt_10 hT) rfl ?_
      refine jv_icmp_geN (q := 69) (tgt := 98) G dX8_implement_66 (by decide) rfl (by omega) (by omega) (fun c2 => ?_) (fun c2 => ?_)
      · omega
      · refine jv_aload_n (q := 70) G 3 dX8_implement_69 rfl rfl rfl ?_
        refine jv_getQ (q := 73) G dX8_implement_70 fl_X8_38 rfl hS.1 (rf_p11 hS) rfl ?_
        refine jv_iconst (q := 74) (v := nI 3) G dX8_implement_73 (by decide) rfl ?_
        refine jv_iload (q := 76) G 2 dX8_implement_74 rfl rfl ?_
        refine jv_imulN (q := 77) G dX8_implement_76 rfl ?_
        refine jv_iload (q := 79) G 0 dX8_implement_77 rfl rfl ?_
        refine jv_iaddN (q := 80) G dX8_implement_79 rfl ?_
        refine jv_iald (q := 81) G dX8_implement_80 (rf_a11 hS) rfl (by omega) (by decide) hy11 rfl ?_
        refine jv_iload_n (q := 82) G 4 dX8_implement_81 rfl rfl rfl ?_
        refine jv_icmp_eq (q := 85) (tgt := 89) G dX8_implement_82 (by decide) rfl (fun c3 => ?_) (fun c3 => ?_)
        · refine jv_iconst (q := 90) (v := nI 0) G dX8_implement_89 (by decide) rfl ?_
          refine jv_istore (q := 92) (lo' := [(5, .int (nI 0)), (6, .int (nI j)), (4, .int (nI (10 * k_e + i))), (0, .ref x), (3, .int v)]) G dX8_implement_90 (by decide) rfl rfl ?_
          refine jv_iinc (q := 95) (lo' := [(6, .int (nI (j + 1))), (5, .int (nI 0)), (4, .int (nI (10 * k_e + i))), (0, .ref x), (3, .int v)]) (v := nI (j + 1)) G 1 dX8_implement_92 rfl (nI_1 j) (by decide) rfl rfl ?_
          refine jv_goto (q := 52) G dX8_implement_95 (by decide) ?_
          refine jv_iload (q := 54) G 1 dX8_implement_52 rfl rfl ?_
          refine jv_if_eqN (q := 57) (tgt := 98) G dX8_implement_54 (by decide) rfl (by omega) (fun c4 => ?_) (fun c4 => ?_)
          · refine jv_lo [1, 2, 3, 4] (lo' := [(5, .int (nI 0)), (4, .int (nI (10 * k_e + i))), (0, .ref x), (3, .int v)]) rfl ?_
            exact hK0 (m_fi_y hy c3)
          · omega
        · refine jv_iconst (q := 86) (v := nI 1) G dX8_implement_85 (by decide) rfl ?_
          refine jv_goto (q := 90) G dX8_implement_86 (by decide) ?_
          refine jv_istore (q := 92) (lo' := [(5, .int (nI 1)), (6, .int (nI j)), (4, .int (nI (10 * k_e + i))), (0, .ref x), (3, .int v)]) G dX8_implement_90 (by decide) rfl rfl ?_
          refine jv_iinc (q := 95) (lo' := [(6, .int (nI (j + 1))), (5, .int (nI 1)), (4, .int (nI (10 * k_e + i))), (0, .ref x), (3, .int v)]) (v := nI (j + 1)) G 1 dX8_implement_92 rfl (nI_1 j) (by decide) rfl rfl ?_
          refine jv_goto (q := 52) G dX8_implement_95 (by decide) ?_
          refine jv_lo [0, 1, 2, 3, 4] (lo' := [(6, .int (nI (j + 1))), (5, .int (nI 1)), (4, .int (nI (10 * k_e + i))), (0, .ref x), (3, .int v)]) rfl ?_
          refine ih (j + 1) (by omega) (fun j' z hj' hz => ?_)
          by_cases hjj : j' = j
          · subst hjj
            cases hy.symm.trans hz
            exact c3
          · exact hj j' z (by omega) hz
set_option maxHeartbeats 4000000 in
set_option maxRecDepth 100000 in
theorem r_implement {lA : Launch} (hlt : lA.stackTraces = false) {D : jv_D} {base : Nat} {x : Nat} {q : Nat → Nat} {h : jv_H} {M : mA} {e n v : Int32} (hR : rf_R x q h M) : jv_Met lA D base yX8_implement (.code yX8_implement cX8_implement 7 (some .int)) 3 0 0 [.ref x, .int e, .int n, .int v] h (pO x q h (m_im M e n v)) jv_no := by
  refine jv_ofV (lo := [(0, .ref x), (1, .int e), (2, .int n), (3, .int v)]) hlt (by decide) (Nat.le_of_ble_eq_true rfl) rfl (fun E hEl hEd hEz Z G hr ht hnm => ?_)
  subst hEl; subst hEd; subst hEz
  obtain ⟨hS, ⟨hn8, hn⟩, ⟨hm12, hm⟩, hD, hV, hCs⟩ := id hR
  have hS0 := hS
  have hrs : rs x q h h := rs.rf
  have hsc : sc x q h h := sc.rf
  have hop := opF_lt M e
  refine jv_aload_n (q := 1) G 0 dX8_implement_0 rfl rfl rfl ?_
  refine jv_aload_n (q := 2) G 0 dX8_implement_1 rfl rfl rfl ?_
  refine jv_iload_n (q := 3) G 1 dX8_implement_2 rfl rfl rfl ?_
  refine jv_callV_I (q := 6) (h1 := h) (As := [.int e]) (rest := [.ref x]) (ce' := 0) (sl' := 0) (r := nI (m_opF M e)) G Z ml_X8_143 (r_openFault hlt hR) hS.1 dX8_implement_3 rfl (by decide) (by decide) (by decide) (by decide) (Nat.le_of_ble_eq_true rfl) rfl rfl rfl rfl ?_
  refine jv_putI (q := 9) G dX8_implement_6 fl_X8_122 rfl hS.1 rfl ?_
  have hr1 : rs x q h (jv_wI h x 0 (nI (m_opF M e))) := rs.rf.wI (nI (m_opF M e)) (Or.inl ⟨rfl, Or.inl rfl⟩)
  have hth : jv_I (jv_wI h x 0 (nI (m_opF M e))) x 0 = (nI (m_opF M e)) := jv_I_self _ _ _ _
  have hR := hr1.R hR
  have hrs := hrs.tr hr1
  generalize jv_wI h x 0 (nI (m_opF M e)) = h1 at hth hR hrs ⊢
  obtain ⟨hS, ⟨hn8, hn⟩, ⟨hm12, hm⟩, hD, hV, hCs⟩ := id hR
  have hsc : sc x q h1 h1 := sc.rf
  refine jv_aload_n (q := 10) G 0 dX8_implement_9 rfl rfl rfl ?_
  refine jv_getI (q := 13) G dX8_implement_10 fl_X8_122 rfl hS.1 hth rfl ?_
  refine jv_if_leN (q := 16) (tgt := 18) G dX8_implement_13 (by decide) rfl (by omega) (fun c2 => ?_) (fun c2 => ?_)
  · obtain ⟨k_e, hke, eke, zke, hse⟩ := opF_0 c2 (by omega)
    have e0 := c2
    subst eke
    rw [e0] at hth
    have hE := (hD k_e (by omega)).2
    have hl10 := hE.2.1
    refine jv_aload_n (q := 19) G 0 dX8_implement_18 rfl rfl rfl ?_
    refine jv_iload_n (q := 20) G 1 dX8_implement_19 rfl rfl rfl ?_
    refine jv_iload_n (q := 21) G 2 dX8_implement_20 rfl rfl rfl ?_
    refine jv_callV_I (q := 24) (h1 := h1) (As := [.int (nI k_e), .int n]) (rest := []) (ce' := 0) (sl' := 0) (r := jv_oN ((m_at (ma_t M k_e) n).map (fun k => 10 * k_e + k))) G Z ml_X8_151 (r_at hlt (hsc.S hS) (by omega) (hsc.E hS hE)) hS.1 dX8_implement_21 rfl (by decide) (by decide) (by decide) (by decide) (Nat.le_of_ble_eq_true rfl) rfl rfl rfl rfl ?_
    rcases Option.eq_none_or_eq_some (m_at (ma_t M k_e) n) with hk5 | ⟨k3, hk5⟩
    · refine jv_topI (y := (-1)) (by rw [hk5]; rfl) ?_
      refine jv_istore (q := 26) (lo' := [(4, .int (-1)), (0, .ref x), (1, .int (nI k_e)), (2, .int n), (3, .int v)]) G dX8_implement_24 (by decide) rfl rfl ?_
      refine jv_iload (q := 28) G 0 dX8_implement_26 rfl rfl ?_
      refine jv_iconst (q := 29) (v := (-1)) G dX8_implement_28 (by decide) rfl ?_
      refine jv_icmp_eq (q := 32) (tgt := 46) G dX8_implement_29 (by decide) rfl (fun c6 => ?_) (fun c6 => ?_)
      · refine jv_iconst (q := 47) (v := nI 0) G dX8_implement_46 (by decide) rfl ?_
        refine jv_istore (q := 49) (lo' := [(5, .int (nI 0)), (4, .int (-1)), (0, .ref x), (1, .int (nI k_e)), (2, .int n), (3, .int v)]) G dX8_implement_47 (by decide) rfl rfl ?_
        refine jv_iconst (q := 50) (v := nI 0) G dX8_implement_49 (by decide) rfl ?_
        refine jv_istore (q := 52) (lo' := [(6, .int (nI 0)), (5, .int (nI 0)), (4, .int (-1)), (0, .ref x), (1, .int (nI k_e)), (2, .int n), (3, .int v)]) G dX8_implement_50 (by decide) rfl rfl ?_
        refine jv_iload (q := 54) G 1 dX8_implement_52 rfl rfl ?_
        refine jv_if_eqN (q := 57) (tgt := 98) G dX8_implement_54 (by decide) rfl (by omega) (fun c7 => ?_) (fun c7 => ?_)
        · refine jv_aload_n (q := 99) G 3 dX8_implement_98 rfl rfl rfl ?_
          refine jv_iload (q := 101) G 1 dX8_implement_99 rfl rfl ?_
          refine jv_if_neN (q := 104) (tgt := 108) G dX8_implement_101 (by decide) rfl (by omega) (fun c8 => ?_) (fun c8 => ?_)
          · omega
          · refine jv_iconst (q := 105) (v := nI 3) G dX8_implement_104 (by decide) rfl ?_
            refine jv_goto (q := 124) G dX8_implement_105 (by decide) ?_
            refine jv_putI (q := 127) G dX8_implement_124 fl_X8_122 rfl hS.1 rfl ?_
            have hr1 : rs x q h1 (jv_wI h1 x 0 (nI 3)) := rs.rf.wI (nI 3) (Or.inl ⟨rfl, Or.inl rfl⟩)
            have hth : jv_I (jv_wI h1 x 0 (nI 3)) x 0 = (nI 3) := jv_I_self _ _ _ _
            have hR := hr1.R hR
            have hrs := hrs.tr hr1
            generalize jv_wI h1 x 0 (nI 3) = h9 at hth hR hrs ⊢
            obtain ⟨hS, ⟨hn8, hn⟩, ⟨hm12, hm⟩, hD, hV, hCs⟩ := id hR
            have hsc : sc x q h9 h9 := sc.rf
            have hE := (hD k_e (by omega)).2
            refine jv_aload_n (q := 128) G 3 dX8_implement_127 rfl rfl rfl ?_
            refine jv_getI (q := 131) G dX8_implement_128 fl_X8_122 rfl hS.1 hth rfl ?_
            refine jv_if_leN (q := 134) (tgt := 136) G dX8_implement_131 (by decide) rfl (by omega) (fun c10 => ?_) (fun c10 => ?_)
            · omega
            · refine jv_iconst (q := 135) (v := nI 0) G dX8_implement_134 (by decide) rfl ?_
              refine jv_iret G hr dX8_implement_135 (Nat.le_of_ble_eq_true rfl) (Nat.le_of_ble_eq_true rfl) ?_
              refine pO.no (M := M) hS0 ?_ rfl hth hR hrs
              exact m_opT_none zke hse (by assumption)
        · omega
      · exact absurd rfl c6
    · refine jv_topI (y := nI (10 * k_e + k3)) (by rw [hk5]; rfl) ?_
      obtain ⟨t4, ht4, nt4, lt4⟩ := m_at_some hk5
      have Tt4 := (hE.2.2 k3 t4 ht4).1
      have Ot4 := (hE.2.2 k3 t4 ht4).2
      have Lt4 := hE.2.1
      have Bt4n := Ot4.1; have Bt4k := Ot4.2.1
      refine jv_istore (q := 26) (lo' := [(4, .int (nI (10 * k_e + k3))), (0, .ref x), (1, .int (nI k_e)), (2, .int n), (3, .int v)]) G dX8_implement_24 (by decide) rfl rfl ?_
      refine jv_iload (q := 28) G 0 dX8_implement_26 rfl rfl ?_
      refine jv_iconst (q := 29) (v := (-1)) G dX8_implement_28 (by decide) rfl ?_
      refine jv_icmp_eq (q := 32) (tgt := 46) G dX8_implement_29 (by decide) rfl (fun c11 => ?_) (fun c11 => ?_)
      · exact absurd c11 (jv_nI_m1 (by omega))
      · refine jv_iload_n (q := 33) G 4 dX8_implement_32 rfl rfl rfl ?_
        refine jv_iconst (q := 34) (v := nI 0) G dX8_implement_33 (by decide) rfl ?_
        refine jv_bipush (q := 36) (v := nI 15) G dX8_implement_34 (by decide) rfl ?_
        refine jv_callS_I (q := 39) (h1 := h1) (As := [.int v, .int (nI 0), .int (nI 15)]) (rest := []) (ce' := 0) (sl' := 0) (r := jv_bI (rr_in v (nI 0) (nI 15))) G Z ml_X8_147 (r_isIn hlt) dX8_implement_36 rfl (by decide) (by decide) (by decide) (by decide) (Nat.le_of_ble_eq_true rfl) rfl rfl rfl rfl ?_
        refine jv_if_eqB (q := 42) (tgt := 46) G dX8_implement_39 (by decide) rfl (fun c12 => ?_) (fun c12 => ?_)
        · refine jv_iconst (q := 47) (v := nI 0) G dX8_implement_46 (by decide) rfl ?_
          refine jv_istore (q := 49) (lo' := [(5, .int (nI 0)), (4, .int (nI (10 * k_e + k3))), (0, .ref x), (1, .int (nI k_e)), (2, .int n), (3, .int v)]) G dX8_implement_47 (by decide) rfl rfl ?_
          refine jv_iconst (q := 50) (v := nI 0) G dX8_implement_49 (by decide) rfl ?_
          refine jv_istore (q := 52) (lo' := [(6, .int (nI 0)), (5, .int (nI 0)), (4, .int (nI (10 * k_e + k3))), (0, .ref x), (1, .int (nI k_e)), (2, .int n), (3, .int v)]) G dX8_implement_50 (by decide) rfl rfl ?_
          refine jv_iload (q := 54) G 1 dX8_implement_52 rfl rfl ?_
          refine jv_if_eqN (q := 57) (tgt := 98) G dX8_implement_54 (by decide) rfl (by omega) (fun c13 => ?_) (fun c13 => ?_)
          · refine jv_aload_n (q := 99) G 3 dX8_implement_98 rfl rfl rfl ?_
            refine jv_iload (q := 101) G 1 dX8_implement_99 rfl rfl ?_
            refine jv_if_neN (q := 104) (tgt := 108) G dX8_implement_101 (by decide) rfl (by omega) (fun c14 => ?_) (fun c14 => ?_)
            · omega
            · refine jv_iconst (q := 105) (v := nI 3) G dX8_implement_104 (by decide) rfl ?_
              refine jv_goto (q := 124) G dX8_implement_105 (by decide) ?_
              refine jv_putI (q := 127) G dX8_implement_124 fl_X8_122 rfl hS.1 rfl ?_
              have hr1 : rs x q h1 (jv_wI h1 x 0 (nI 3)) := rs.rf.wI (nI 3) (Or.inl ⟨rfl, Or.inl rfl⟩)
              have hth : jv_I (jv_wI h1 x 0 (nI 3)) x 0 = (nI 3) := jv_I_self _ _ _ _
              have hR := hr1.R hR
              have hrs := hrs.tr hr1
              generalize jv_wI h1 x 0 (nI 3) = h15 at hth hR hrs ⊢
              obtain ⟨hS, ⟨hn8, hn⟩, ⟨hm12, hm⟩, hD, hV, hCs⟩ := id hR
              have hsc : sc x q h15 h15 := sc.rf
              have hE := (hD k_e (by omega)).2
              have Tt4 := (hE.2.2 k3 t4 ht4).1
              refine jv_aload_n (q := 128) G 3 dX8_implement_127 rfl rfl rfl ?_
              refine jv_getI (q := 131) G dX8_implement_128 fl_X8_122 rfl hS.1 hth rfl ?_
              refine jv_if_leN (q := 134) (tgt := 136) G dX8_implement_131 (by decide) rfl (by omega) (fun c16 => ?_) (fun c16 => ?_)
              · omega
              · refine jv_iconst (q := 135) (v := nI 0) G dX8_implement_134 (by decide) rfl ?_
                refine jv_iret G hr dX8_implement_135 (Nat.le_of_ble_eq_true rfl) (Nat.le_of_ble_eq_true rfl) ?_
                refine pO.no (M := M) hS0 ?_ rfl hth hR hrs
                unfold m_im; rw [m_opT_yes zke hse (by assumption) ht4]
                simp only [*, if_true, if_false, Bool.false_eq_true, reduceIte, Bool.and_true, Bool.and_false, Bool.true_and, Bool.false_and, Bool.not_true, Bool.not_false, Bool.true_or, Bool.or_true, Bool.false_or, Option.isNone_some, Option.isNone_none, decide_true, decide_false]
          · omega
        · refine jv_iconst (q := 43) (v := nI 1) G dX8_implement_42 (by decide) rfl ?_
          refine jv_goto (q := 47) G dX8_implement_43 (by decide) ?_
          refine jv_istore (q := 49) (lo' := [(5, .int (nI 1)), (4, .int (nI (10 * k_e + k3))), (0, .ref x), (1, .int (nI k_e)), (2, .int n), (3, .int v)]) G dX8_implement_47 (by decide) rfl rfl ?_
          refine jv_iconst (q := 50) (v := nI 0) G dX8_implement_49 (by decide) rfl ?_
          refine jv_istore (q := 52) (lo' := [(6, .int (nI 0)), (5, .int (nI 1)), (4, .int (nI (10 * k_e + k3))), (0, .ref x), (1, .int (nI k_e)), (2, .int n), (3, .int v)]) G dX8_implement_50 (by decide) rfl rfl ?_
          refine jv_lo [0, 1, 2, 3, 6] (lo' := [(6, .int (nI 0)), (5, .int (nI 1)), (4, .int (nI (10 * k_e + k3))), (0, .ref x), (3, .int v)]) rfl ?_
          have hl3t4 := Ot4.2.2.2.1
          refine r_im_loop G hS (by omega) (by omega) Tt4 Ot4 (fun hfi => ?_) (fun hfi => ?_) (mt_f t4).length 0 (by omega) (fun j' z hj => by omega)
          · refine jv_aload_n (q := 99) G 2 dX8_implement_98 rfl rfl rfl ?_
            refine jv_iload (q := 101) G 0 dX8_implement_99 rfl rfl ?_
            refine jv_if_neN (q := 104) (tgt := 108) G dX8_implement_101 (by decide) rfl (by omega) (fun c17 => ?_) (fun c17 => ?_)
            · refine jv_aload_n (q := 109) G 2 dX8_implement_108 rfl rfl rfl ?_
              refine jv_getQ (q := 112) G dX8_implement_109 fl_X8_35 rfl hS.1 (rf_p10 hS) rfl ?_
              refine jv_iload (q := 114) G 1 dX8_implement_112 rfl rfl ?_
              refine jv_iald (q := 115) G dX8_implement_114 (rf_a10 hS) rfl (by omega) (by decide) (rt_10 (hsc.T hS Tt4)) rfl ?_
              refine jv_iconst (q := 116) (v := nI 3) G dX8_implement_115 (by decide) rfl ?_
              refine jv_icmp_neN (q := 119) (tgt := 123) G dX8_implement_116 (by decide) rfl (by omega) (by omega) (fun c18 => ?_) (fun c18 => ?_)
              · refine jv_iconst (q := 124) (v := nI 0) G dX8_implement_123 (by decide) rfl ?_
                refine jv_putI (q := 127) G dX8_implement_124 fl_X8_122 rfl hS.1 rfl ?_
                have hr1 : rs x q h1 (jv_wI h1 x 0 (nI 0)) := rs.rf.wI (nI 0) (Or.inl ⟨rfl, Or.inl rfl⟩)
                have hth : jv_I (jv_wI h1 x 0 (nI 0)) x 0 = (nI 0) := jv_I_self _ _ _ _
                have hR := hr1.R hR
                have hrs := hrs.tr hr1
                generalize jv_wI h1 x 0 (nI 0) = h19 at hth hR hrs ⊢
                obtain ⟨hS, ⟨hn8, hn⟩, ⟨hm12, hm⟩, hD, hV, hCs⟩ := id hR
                have hsc : sc x q h19 h19 := sc.rf
                have hE := (hD k_e (by omega)).2
                have Tt4 := (hE.2.2 k3 t4 ht4).1
                refine jv_aload_n (q := 128) G 2 dX8_implement_127 rfl rfl rfl ?_
                refine jv_getI (q := 131) G dX8_implement_128 fl_X8_122 rfl hS.1 hth rfl ?_
                refine jv_if_leN (q := 134) (tgt := 136) G dX8_implement_131 (by decide) rfl (by omega) (fun c20 => ?_) (fun c20 => ?_)
                · have c2 : jv_I h19 (q 2) k_e = jv_bI false := (hD k_e (by omega)).1.trans (by rw [hse])
                  have c10 := rt_10 Tt4
                  have hl3 := Ot4.2.2.2.1
                  have hF : FW (fun k j => (k = 10 ∧ j = 10 * k_e + k3) ∨ (k = 11 ∧ j = 3 * (10 * k_e + k3) + (mt_f t4).length)) xcr x q h19 h19 := FW.rf
                  have hSn := hS
                  refine jv_aload_n (q := 137) G 2 dX8_implement_136 rfl rfl rfl ?_
                  refine jv_getQ (q := 140) G dX8_implement_137 fl_X8_38 rfl hS.1 (rf_p11 hS) rfl ?_
                  refine jv_iconst (q := 141) (v := nI 3) G dX8_implement_140 (by decide) rfl ?_
                  refine jv_iload (q := 143) G 1 dX8_implement_141 rfl rfl ?_
                  refine jv_imulN (q := 144) G dX8_implement_143 rfl ?_
                  refine jv_aload_n (q := 145) G 2 dX8_implement_144 rfl rfl rfl ?_
                  refine jv_getQ (q := 148) G dX8_implement_145 fl_X8_35 rfl hS.1 (rf_p10 hS) rfl ?_
                  refine jv_iload (q := 150) G 1 dX8_implement_148 rfl rfl ?_
                  refine jv_iald (q := 151) G dX8_implement_150 (rf_a10 hS) rfl (by omega) (by decide) (rt_10 (hsc.T hS Tt4)) rfl ?_
                  refine jv_iaddN (q := 152) G dX8_implement_151 rfl ?_
                  refine jv_iload_n (q := 153) G 3 dX8_implement_152 rfl rfl rfl ?_
                  refine jv_iast (q := 154) G dX8_implement_153 (rf_a11 hS) rfl (by omega) (by decide) rfl ?_
                  have hF := hF.wq hS (k := 11) (j := (3 * (10 * k_e + k3)) + ((mt_f t4).length)) (by decide) rfl (Or.inr ⟨rfl, rfl⟩) (v)
                  have hSn2 := hF.S hS
                  have c2 := (qI_q hSn (k := 2) (k' := 11) (h := h19) (by decide) rfl (by decide) rfl (k_e) ((3 * (10 * k_e + k3)) + ((mt_f t4).length)) (v)).trans ((if_neg (fun e => absurd e.1 (by decide))).trans c2)
                  have c10 := (qI_q hSn (k := 10) (k' := 11) (h := h19) (by decide) rfl (by decide) rfl (10 * k_e + k3) ((3 * (10 * k_e + k3)) + ((mt_f t4).length)) (v)).trans ((if_neg (fun e => absurd e.1 (by decide))).trans c10)
                  have hth := (xI_q hSn (k := 11) (h := h19) (by decide) rfl 0 ((3 * (10 * k_e + k3)) + ((mt_f t4).length)) (v)).trans hth
                  have c_11_21 : jv_I (jv_wI h19 (q 11) ((3 * (10 * k_e + k3)) + ((mt_f t4).length)) v) (q 11) ((3 * (10 * k_e + k3)) + ((mt_f t4).length)) = v := jv_I_self _ _ _ _
                  generalize jv_wI h19 (q 11) ((3 * (10 * k_e + k3)) + ((mt_f t4).length)) v = h21 at hF hSn2 c2 c10 hth c_11_21 ⊢
                  clear hSn; have hSn := hSn2; clear hSn2
                  refine jv_aload_n (q := 155) G 2 dX8_implement_154 rfl rfl rfl ?_
                  refine jv_getQ (q := 158) G dX8_implement_155 fl_X8_35 rfl hSn.1 (rf_p10 hSn) rfl ?_
                  refine jv_iload (q := 160) G 1 dX8_implement_158 rfl rfl ?_
                  refine jv_dup2 (q := 161) G dX8_implement_160 rfl rfl rfl ?_
                  refine jv_iald (q := 162) G dX8_implement_161 (rf_a10 hSn) rfl (by omega) (by decide) c10 rfl ?_
                  refine jv_iconst (q := 163) (v := nI 1) G dX8_implement_162 (by decide) rfl ?_
                  refine jv_iaddN (q := 164) G dX8_implement_163 rfl ?_
                  refine jv_iast (q := 165) G dX8_implement_164 (rf_a10 hSn) rfl (by omega) (by decide) rfl ?_
                  have hF := hF.wq hS (k := 10) (j := 10 * k_e + k3) (by decide) rfl (Or.inl ⟨rfl, rfl⟩) (nI (((mt_f t4).length) + 1))
                  have hSn2 := hF.S hS
                  have c2 := (qI_q hSn (k := 2) (k' := 10) (h := h21) (by decide) rfl (by decide) rfl (k_e) (10 * k_e + k3) (nI (((mt_f t4).length) + 1))).trans ((if_neg (fun e => absurd e.1 (by decide))).trans c2)
                  have c_11_21 := (qI_q hSn (k := 11) (k' := 10) (h := h21) (by decide) rfl (by decide) rfl ((3 * (10 * k_e + k3)) + ((mt_f t4).length)) (10 * k_e + k3) (nI (((mt_f t4).length) + 1))).trans ((if_neg (fun e => absurd e.1 (by decide))).trans c_11_21)
                  have hth := (xI_q hSn (k := 10) (h := h21) (by decide) rfl 0 (10 * k_e + k3) (nI (((mt_f t4).length) + 1))).trans hth
                  have c_10_22 : jv_I (jv_wI h21 (q 10) (10 * k_e + k3) (nI (((mt_f t4).length) + 1))) (q 10) (10 * k_e + k3) = nI (((mt_f t4).length) + 1) := jv_I_self _ _ _ _
                  generalize jv_wI h21 (q 10) (10 * k_e + k3) (nI (((mt_f t4).length) + 1)) = h22 at hF hSn2 c2 c_11_21 hth c_10_22 ⊢
                  clear hSn; have hSn := hSn2; clear hSn2
                  refine jv_aload_n (q := 166) G 2 dX8_implement_165 rfl rfl rfl ?_
                  refine jv_getQ (q := 169) G dX8_implement_166 fl_X8_35 rfl hSn.1 (rf_p10 hSn) rfl ?_
                  refine jv_iload (q := 171) G 1 dX8_implement_169 rfl rfl ?_
                  refine jv_iald (q := 172) G dX8_implement_171 (rf_a10 hSn) rfl (by omega) (by decide) c_10_22 rfl ?_
                  refine jv_iret G hr dX8_implement_172 (Nat.le_of_ble_eq_true rfl) (Nat.le_of_ble_eq_true rfl) ?_
                  have hT2 := rf_T.cF (Tt4) Ot4 (by have := Ot4.2.2.2.1; omega) hF c_10_22 c_11_21 (by assumption)
                  refine pO.mk (th := 0) (r := nI ((mt_f t4).length + 1)) (M' := m_put M k_e (false, (ma_t M k_e).set k3 (m_tF t4 (mt_f t4 ++ [v.toNatClampNeg])))) ?_ rfl hth (rf_R.ed hR hke hse (hF.mono (fun k j w => o_T_E (i := k3) (by omega) (by unfold o_T k_t; have := Ot4.2.2.2.1; omega)) (fun _ z => z)) c2 (hE.upd lt4 (hF.mono (W' := o_T (10 * k_e + k3)) (fun k j w => by unfold o_T k_t; have := Ot4.2.2.2.1; omega) (fun _ z => z)) hT2) (fun z => by cases z)) ((hrs.FW hS0).fr.tr hF.fr)
                  unfold m_im
                  rw [m_opT_yes zke hse (by assumption) ht4]
                  simp only [*, if_true, if_false, Bool.false_eq_true, reduceIte, Bool.and_true, Bool.and_false, Bool.true_and, Bool.false_and, Bool.not_true, Bool.not_false, Bool.true_or, Bool.or_true, Bool.false_or, Option.isNone_some, Option.isNone_none, decide_true, decide_false]
                  first | done | rfl
                · omega
              · refine jv_iconst (q := 120) (v := nI 4) G dX8_implement_119 (by decide) rfl ?_
                refine jv_goto (q := 124) G dX8_implement_120 (by decide) ?_
                refine jv_putI (q := 127) G dX8_implement_124 fl_X8_122 rfl hS.1 rfl ?_
                have hr1 : rs x q h1 (jv_wI h1 x 0 (nI 4)) := rs.rf.wI (nI 4) (Or.inl ⟨rfl, Or.inl rfl⟩)
                have hth : jv_I (jv_wI h1 x 0 (nI 4)) x 0 = (nI 4) := jv_I_self _ _ _ _
                have hR := hr1.R hR
                have hrs := hrs.tr hr1
                generalize jv_wI h1 x 0 (nI 4) = h23 at hth hR hrs ⊢
                obtain ⟨hS, ⟨hn8, hn⟩, ⟨hm12, hm⟩, hD, hV, hCs⟩ := id hR
                have hsc : sc x q h23 h23 := sc.rf
                have hE := (hD k_e (by omega)).2
                have Tt4 := (hE.2.2 k3 t4 ht4).1
                refine jv_aload_n (q := 128) G 2 dX8_implement_127 rfl rfl rfl ?_
                refine jv_getI (q := 131) G dX8_implement_128 fl_X8_122 rfl hS.1 hth rfl ?_
                refine jv_if_leN (q := 134) (tgt := 136) G dX8_implement_131 (by decide) rfl (by omega) (fun c24 => ?_) (fun c24 => ?_)
                · omega
                · refine jv_iconst (q := 135) (v := nI 0) G dX8_implement_134 (by decide) rfl ?_
                  refine jv_iret G hr dX8_implement_135 (Nat.le_of_ble_eq_true rfl) (Nat.le_of_ble_eq_true rfl) ?_
                  refine pO.no (M := M) hS0 ?_ rfl hth hR hrs
                  unfold m_im; rw [m_opT_yes zke hse (by assumption) ht4]
                  simp only [*, if_true, if_false, Bool.false_eq_true, reduceIte, Bool.and_true, Bool.and_false, Bool.true_and, Bool.false_and, Bool.not_true, Bool.not_false, Bool.true_or, Bool.or_true, Bool.false_or, Option.isNone_some, Option.isNone_none, decide_true, decide_false]
            · omega
          · refine jv_aload_n (q := 99) G 2 dX8_implement_98 rfl rfl rfl ?_
            refine jv_iload (q := 101) G 0 dX8_implement_99 rfl rfl ?_
            refine jv_if_neN (q := 104) (tgt := 108) G dX8_implement_101 (by decide) rfl (by omega) (fun c25 => ?_) (fun c25 => ?_)
            · omega
            · refine jv_iconst (q := 105) (v := nI 3) G dX8_implement_104 (by decide) rfl ?_
              refine jv_goto (q := 124) G dX8_implement_105 (by decide) ?_
              refine jv_putI (q := 127) G dX8_implement_124 fl_X8_122 rfl hS.1 rfl ?_
              have hr1 : rs x q h1 (jv_wI h1 x 0 (nI 3)) := rs.rf.wI (nI 3) (Or.inl ⟨rfl, Or.inl rfl⟩)
              have hth : jv_I (jv_wI h1 x 0 (nI 3)) x 0 = (nI 3) := jv_I_self _ _ _ _
              have hR := hr1.R hR
              have hrs := hrs.tr hr1
              generalize jv_wI h1 x 0 (nI 3) = h26 at hth hR hrs ⊢
              obtain ⟨hS, ⟨hn8, hn⟩, ⟨hm12, hm⟩, hD, hV, hCs⟩ := id hR
              have hsc : sc x q h26 h26 := sc.rf
              have hE := (hD k_e (by omega)).2
              have Tt4 := (hE.2.2 k3 t4 ht4).1
              refine jv_aload_n (q := 128) G 2 dX8_implement_127 rfl rfl rfl ?_
              refine jv_getI (q := 131) G dX8_implement_128 fl_X8_122 rfl hS.1 hth rfl ?_
              refine jv_if_leN (q := 134) (tgt := 136) G dX8_implement_131 (by decide) rfl (by omega) (fun c27 => ?_) (fun c27 => ?_)
              · omega
              · refine jv_iconst (q := 135) (v := nI 0) G dX8_implement_134 (by decide) rfl ?_
                refine jv_iret G hr dX8_implement_135 (Nat.le_of_ble_eq_true rfl) (Nat.le_of_ble_eq_true rfl) ?_
                refine pO.no (M := M) hS0 ?_ rfl hth hR hrs
                unfold m_im; rw [m_opT_yes zke hse (by assumption) ht4]
                simp only [*, if_true, if_false, Bool.false_eq_true, reduceIte, Bool.and_true, Bool.and_false, Bool.true_and, Bool.false_and, Bool.not_true, Bool.not_false, Bool.true_or, Bool.or_true, Bool.false_or, Option.isNone_some, Option.isNone_none, decide_true, decide_false]
  · refine jv_iconst (q := 17) (v := nI 0) G dX8_implement_16 (by decide) rfl ?_
    refine jv_iret G hr dX8_implement_17 (Nat.le_of_ble_eq_true rfl) (Nat.le_of_ble_eq_true rfl) ?_
    refine pO.no (M := M) hS0 ?_ rfl hth hR hrs
    exact m_opT_no c2
