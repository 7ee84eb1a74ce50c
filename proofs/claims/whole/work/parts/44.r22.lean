def m_mbG (t : mT) (w n s a : Int32) (st : Bool) (b : Int32) : Bool := rr_in w (nI 0) (nI 2) && rr_in n (nI 0) (nI 15) && rr_in s (nI 0) (nI 3) && rr_in a (nI 0) (nI 3) && rr_in b (if w = nI 1 then -1 else nI 0) (nI 9) && (!(decide (w = nI 1) && decide (b = -1)) || (!st && !decide (a ≤ 0))) && (!decide (w = nI 2) || st) && (!mt_i t || (decide (a = nI 3) && (decide (w = nI 1) || st))) && (m_own t (if w = nI 1 then nI 1 else nI 0) n s).isNone
def m_mbN (w n s a : Int32) (st : Bool) (b : Int32) : mM := (decide (w = nI 1), n.toNatClampNeg, s.toNatClampNeg, a.toNatClampNeg, st, b, decide (w = nI 2))
def m_mb (M : mA) (e n w o s a : Int32) (st : Bool) (b : Int32) : Nat × Int32 × mA := m_opT M e n (3, 0, M) (fun k i t => if m_mbG t w o s a st b then if (mt_m t).length = 6 then (4, 0, M) else (0, nI ((mt_m t).length + 1), m_put M k (false, (ma_t M k).set i (m_tM t (mt_m t ++ [m_mbN w o s a st b])))) else (3, 0, M))
theorem rf_M.new {q : Nat → Nat} {h : jv_H} {i : Nat} {t : mT} {w n s a b : Int32} {st w1 w2 : Bool} (g : m_mbG t w n s a st b = true) (e1 : w1 = decide (w = nI 1)) (e2 : w2 = decide (w = nI 2)) (h1 : jv_I h (q 13) i = jv_bI w1) (h2 : jv_I h (q 14) i = n) (h3 : jv_I h (q 15) i = s) (h4 : jv_I h (q 16) i = a) (h5 : jv_I h (q 17) i = jv_bI st) (h6 : jv_I h (q 18) i = b) (h7 : jv_I h (q 19) i = jv_bI w2) : rf_M q h i (m_mbN w n s a st b) ∧ mm_ok (m_mbN w n s a st b) := by
  subst e1; subst e2
  unfold m_mbG at g
  simp only [Bool.and_eq_true] at g
  obtain ⟨⟨⟨⟨⟨⟨⟨⟨g1, g2⟩, g3⟩, g4⟩, g5⟩, -⟩, -⟩, -⟩, -⟩ := g
  have a2 := in_N (by decide) g2
  have a3 := in_N (by decide) g3
  have a4 := in_N (by decide) g4
  refine ⟨⟨h1, h2.trans a2.2, h3.trans a3.2, h4.trans a4.2, h5, h6, h7⟩, Nat.lt_succ_of_le a2.1, Nat.lt_succ_of_le a3.1, Nat.lt_succ_of_le a4.1, ?_⟩
  show (b = -1 ∧ decide (w = nI 1) = true) ∨ ∃ k, k < 10 ∧ b = nI k
  by_cases hw : w = nI 1
  · rw [if_pos hw] at g5
    have a5 := in_O (by decide) g5
    cases hb : m_oI b with
    | none =>
      rw [hb] at a5
      exact Or.inl ⟨a5.1, by simpa using hw⟩
    | some u =>
      rw [hb] at a5
      exact Or.inr ⟨u, Nat.lt_succ_of_le (a5.2 u rfl), a5.1⟩
  · rw [if_neg hw] at g5
    have a5 := in_N (by decide) g5
    exact Or.inr ⟨_, Nat.lt_succ_of_le a5.1, a5.2⟩
theorem rf_T.cM {x : Nat} {q : Nat → Nat} {h0 h : jv_H} {X : Nat → Prop} {i : Nat} {t : mT} {m : mM} (r : rf_T q h0 i t) (ho : mt_ok t) (hl : (mt_m t).length < 6) (a : FW (fun k j => (k = 12 ∧ j = i) ∨ (k_m k ∧ j = 6 * i + (mt_m t).length)) X x q h0 h) (h12 : jv_I h (q 12) i = nI ((mt_m t).length + 1)) (hM : rf_M q h (6 * i + (mt_m t).length) m ∧ mm_ok m) : rf_T q h i (m_tM t (mt_m t ++ [m])) ∧ mt_ok (m_tM t (mt_m t ++ [m])) := by
  refine ⟨⟨(a.aq 4 i (by unfold k_m; omega)).trans r.1, (a.aq 5 i (by unfold k_m; omega)).trans r.2.1, (a.aq 6 i (by unfold k_m; omega)).trans r.2.2.1, (a.aq 7 i (by unfold k_m; omega)).trans r.2.2.2.1, (a.aq 8 i (by unfold k_m; omega)).trans r.2.2.2.2.1, (a.aq 9 i (by unfold k_m; omega)).trans r.2.2.2.2.2.1, (a.aq 10 i (by unfold k_m; omega)).trans r.2.2.2.2.2.2.1, ?_, fun j w e => (a.aq 11 _ (by unfold k_m; omega)).trans (rt_11 r e), fun j m' e => ?_⟩, ho.1, ho.2.1, ho.2.2.1, ho.2.2.2.1, ho.2.2.2.2.1, ?_, fun w hw => ?_⟩
  · rw [h12]; exact congrArg nI (by simp [m_tM, mt_m])
  · have e : (mt_m t ++ [m])[j]? = some m' := e
    by_cases hj : j = (mt_m t).length
    · subst hj
      rw [List.getElem?_append_right (Nat.le_refl _), Nat.sub_self] at e
      cases e
      exact hM.1
    · have h1 := jv_ltGet e
      rw [List.length_append, List.length_singleton] at h1
      rw [List.getElem?_append_left (by omega)] at e
      exact a.M (fun k j' o z => by unfold o_M k_m at o; unfold k_m at z; omega) (rt_m r e)
  · show (mt_m t ++ [m]).length ≤ 6
    rw [List.length_append, List.length_singleton]; omega
  · have hw : w ∈ mt_m t ++ [m] := hw
    rw [List.mem_append, List.mem_singleton] at hw
    rcases hw with hw | hw
    · exact ho.2.2.2.2.2.2 w hw
    · subst hw; exact hM.2
theorem nI_21 : (nI 2 = nI 1) = False := eq_false (by decide)
theorem nI_12 : (nI 1 = nI 2) = False := eq_false (by decide)
theorem nI_102 : rr_in (nI 1) (nI 0) (nI 2) = true := by decide
set_option maxHeartbeats 4000000 in
set_option maxRecDepth 100000 in
theorem r_member {lA : Launch} (hlt : lA.stackTraces = false) {D : jv_D} {base : Nat} {x : Nat} {q : Nat → Nat} {h : jv_H} {M : mA} {e n w o s a b : Int32} {st : Bool} (hR : rf_R x q h M) : jv_Met lA D base yX8_member (.code yX8_member cX8_member 13 (some .int)) 3 0 0 [.ref x, .int e, .int n, .int w, .int o, .int s, .int a, .int (jv_bI st), .int b] h (pO x q h (m_mb M e n w o s a st b)) jv_no := by
  refine jv_ofV (lo := [(0, .ref x), (1, .int e), (2, .int n), (3, .int w), (4, .int o), (5, .int s), (6, .int a), (7, .int (jv_bI st)), (8, .int b)]) hlt (by decide) (Nat.le_of_ble_eq_true rfl) rfl (fun E hEl hEd hEz Z G hr ht hnm => ?_)
  subst hEl; subst hEd; subst hEz
  obtain ⟨hS, ⟨hn8, hn⟩, ⟨hm12, hm⟩, hD, hV, hCs⟩ := id hR
  have hS0 := hS
  have hrs : rs x q h h := rs.rf
  have hsc : sc x q h h := sc.rf
  have hop := opF_lt M e
  refine jv_aload_n (q := 1) G 0 dX8_member_0 rfl rfl rfl ?_
  refine jv_aload_n (q := 2) G 0 dX8_member_1 rfl rfl rfl ?_
  refine jv_iload_n (q := 3) G 1 dX8_member_2 rfl rfl rfl ?_
  refine jv_callV_I (q := 6) (h1 := h) (As := [.int e]) (rest := [.ref x]) (ce' := 0) (sl' := 0) (r := nI (m_opF M e)) G Z ml_X8_143 (r_openFault hlt hR) hS.1 dX8_member_3 rfl (by decide) (by decide) (by decide) (by decide) (Nat.le_of_ble_eq_true rfl) rfl rfl rfl rfl ?_
  refine jv_putI (q := 9) G dX8_member_6 fl_X8_122 rfl hS.1 rfl ?_
  have hr1 : rs x q h (jv_wI h x 0 (nI (m_opF M e))) := rs.rf.wI (nI (m_opF M e)) (Or.inl ⟨rfl, Or.inl rfl⟩)
  have hth : jv_I (jv_wI h x 0 (nI (m_opF M e))) x 0 = (nI (m_opF M e)) := jv_I_self _ _ _ _
  have hR := hr1.R hR
  have hrs := hrs.tr hr1
  generalize jv_wI h x 0 (nI (m_opF M e)) = h1 at hth hR hrs ⊢
  obtain ⟨hS, ⟨hn8, hn⟩, ⟨hm12, hm⟩, hD, hV, hCs⟩ := id hR
  have hsc : sc x q h1 h1 := sc.rf
  refine jv_aload_n (q := 10) G 0 dX8_member_9 rfl rfl rfl ?_
  refine jv_getI (q := 13) G dX8_member_10 fl_X8_122 rfl hS.1 hth rfl ?_
  refine jv_if_leN (q := 16) (tgt := 18) G dX8_member_13 (by decide) rfl (by omega) (fun c2 => ?_) (fun c2 => ?_)
  · obtain ⟨k_e, hke, eke, zke, hse⟩ := opF_0 c2 (by omega)
    have e0 := c2
    subst eke
    rw [e0] at hth
    have hE := (hD k_e (by omega)).2
    have hl10 := hE.2.1
    refine jv_aload_n (q := 19) G 0 dX8_member_18 rfl rfl rfl ?_
    refine jv_iload_n (q := 20) G 1 dX8_member_19 rfl rfl rfl ?_
    refine jv_iload_n (q := 21) G 2 dX8_member_20 rfl rfl rfl ?_
    refine jv_callV_I (q := 24) (h1 := h1) (As := [.int (nI k_e), .int n]) (rest := []) (ce' := 0) (sl' := 0) (r := jv_oN ((m_at (ma_t M k_e) n).map (fun k => 10 * k_e + k))) G Z ml_X8_151 (r_at hlt (hsc.S hS) (by omega) (hsc.E hS hE)) hS.1 dX8_member_21 rfl (by decide) (by decide) (by decide) (by decide) (Nat.le_of_ble_eq_true rfl) rfl rfl rfl rfl ?_
    rcases Option.eq_none_or_eq_some (m_at (ma_t M k_e) n) with hk5 | ⟨k3, hk5⟩
    · refine jv_topI (y := (-1)) (by rw [hk5]; rfl) ?_
      refine jv_istore (q := 26) (lo' := [(9, .int (-1)), (0, .ref x), (1, .int (nI k_e)), (2, .int n), (3, .int w), (4, .int o), (5, .int s), (6, .int a), (7, .int (jv_bI st)), (8, .int b)]) G dX8_member_24 (by decide) rfl rfl ?_
      refine jv_iload_n (q := 27) G 4 dX8_member_26 rfl rfl rfl ?_
      refine jv_iconst (q := 28) (v := nI 1) G dX8_member_27 (by decide) rfl ?_
      refine jv_icmp_ne (q := 31) (tgt := 35) G dX8_member_28 (by decide) rfl (fun c6 => ?_) (fun c6 => ?_)
      · refine jv_iconst (q := 36) (v := nI 0) G dX8_member_35 (by decide) rfl ?_
        refine jv_istore (q := 38) (lo' := [(10, .int (nI 0)), (9, .int (-1)), (0, .ref x), (1, .int (nI k_e)), (2, .int n), (3, .int w), (4, .int o), (5, .int s), (6, .int a), (7, .int (jv_bI st)), (8, .int b)]) G dX8_member_36 (by decide) rfl rfl ?_
        refine jv_iload (q := 40) G 1 dX8_member_38 rfl rfl ?_
        refine jv_iconst (q := 41) (v := (-1)) G dX8_member_40 (by decide) rfl ?_
        refine jv_icmp_eq (q := 44) (tgt := 108) G dX8_member_41 (by decide) rfl (fun c7 => ?_) (fun c7 => ?_)
        · refine jv_iconst (q := 109) (v := nI 0) G dX8_member_108 (by decide) rfl ?_
          refine jv_istore (q := 111) (lo' := [(11, .int (nI 0)), (10, .int (nI 0)), (9, .int (-1)), (0, .ref x), (1, .int (nI k_e)), (2, .int n), (3, .int w), (4, .int o), (5, .int s), (6, .int a), (7, .int (jv_bI st)), (8, .int b)]) G dX8_member_109 (by decide) rfl rfl ?_
          refine jv_iload (q := 113) G 0 dX8_member_111 rfl rfl ?_
          refine jv_if_eqN (q := 116) (tgt := 144) G dX8_member_113 (by decide) rfl (by omega) (fun c8 => ?_) (fun c8 => ?_)
          · refine jv_iload (q := 146) G 0 dX8_member_144 rfl rfl ?_
            refine jv_if_eqN (q := 149) (tgt := 158) G dX8_member_146 (by decide) rfl (by omega) (fun c9 => ?_) (fun c9 => ?_)
            · refine jv_iload (q := 160) G 0 dX8_member_158 rfl rfl ?_
              refine jv_if_eqN (q := 163) (tgt := 196) G dX8_member_160 (by decide) rfl (by omega) (fun c10 => ?_) (fun c10 => ?_)
              · refine jv_iload (q := 198) G 0 dX8_member_196 rfl rfl ?_
                refine jv_if_eqN (q := 201) (tgt := 232) G dX8_member_198 (by decide) rfl (by omega) (fun c11 => ?_) (fun c11 => ?_)
                · refine jv_aload_n (q := 233) G 3 dX8_member_232 rfl rfl rfl ?_
                  refine jv_iload (q := 235) G 0 dX8_member_233 rfl rfl ?_
                  refine jv_if_neN (q := 238) (tgt := 242) G dX8_member_235 (by decide) rfl (by omega) (fun c12 => ?_) (fun c12 => ?_)
                  · omega
                  · refine jv_iconst (q := 239) (v := nI 3) G dX8_member_238 (by decide) rfl ?_
                    refine jv_goto (q := 259) G dX8_member_239 (by decide) ?_
                    refine jv_putI (q := 262) G dX8_member_259 fl_X8_122 rfl hS.1 rfl ?_
                    have hr1 : rs x q h1 (jv_wI h1 x 0 (nI 3)) := rs.rf.wI (nI 3) (Or.inl ⟨rfl, Or.inl rfl⟩)
                    have hth : jv_I (jv_wI h1 x 0 (nI 3)) x 0 = (nI 3) := jv_I_self _ _ _ _
                    have hR := hr1.R hR
                    have hrs := hrs.tr hr1
                    generalize jv_wI h1 x 0 (nI 3) = h13 at hth hR hrs ⊢
                    obtain ⟨hS, ⟨hn8, hn⟩, ⟨hm12, hm⟩, hD, hV, hCs⟩ := id hR
                    have hsc : sc x q h13 h13 := sc.rf
                    have hE := (hD k_e (by omega)).2
                    refine jv_aload_n (q := 263) G 3 dX8_member_262 rfl rfl rfl ?_
                    refine jv_getI (q := 266) G dX8_member_263 fl_X8_122 rfl hS.1 hth rfl ?_
                    refine jv_if_leN (q := 269) (tgt := 271) G dX8_member_266 (by decide) rfl (by omega) (fun c14 => ?_) (fun c14 => ?_)
                    · omega
                    · refine jv_iconst (q := 270) (v := nI 0) G dX8_member_269 (by decide) rfl ?_
                      refine jv_iret G hr dX8_member_270 (Nat.le_of_ble_eq_true rfl) (Nat.le_of_ble_eq_true rfl) ?_
                      refine pO.no (M := M) hS0 ?_ rfl hth hR hrs
                      exact m_opT_none zke hse (by assumption)
                · omega
              · omega
            · omega
          · omega
        · exact absurd rfl c7
      · subst c6
        refine jv_iconst (q := 32) (v := nI 1) G dX8_member_31 (by decide) rfl ?_
        refine jv_goto (q := 36) G dX8_member_32 (by decide) ?_
        refine jv_istore (q := 38) (lo' := [(10, .int (nI 1)), (9, .int (-1)), (0, .ref x), (1, .int (nI k_e)), (2, .int n), (3, .int (nI 1)), (4, .int o), (5, .int s), (6, .int a), (7, .int (jv_bI st)), (8, .int b)]) G dX8_member_36 (by decide) rfl rfl ?_
        refine jv_iload (q := 40) G 1 dX8_member_38 rfl rfl ?_
        refine jv_iconst (q := 41) (v := (-1)) G dX8_member_40 (by decide) rfl ?_
        refine jv_icmp_eq (q := 44) (tgt := 108) G dX8_member_41 (by decide) rfl (fun c15 => ?_) (fun c15 => ?_)
        · refine jv_iconst (q := 109) (v := nI 0) G dX8_member_108 (by decide) rfl ?_
          refine jv_istore (q := 111) (lo' := [(11, .int (nI 0)), (10, .int (nI 1)), (9, .int (-1)), (0, .ref x), (1, .int (nI k_e)), (2, .int n), (3, .int (nI 1)), (4, .int o), (5, .int s), (6, .int a), (7, .int (jv_bI st)), (8, .int b)]) G dX8_member_109 (by decide) rfl rfl ?_
          refine jv_iload (q := 113) G 0 dX8_member_111 rfl rfl ?_
          refine jv_if_eqN (q := 116) (tgt := 144) G dX8_member_113 (by decide) rfl (by omega) (fun c16 => ?_) (fun c16 => ?_)
          · refine jv_iload (q := 146) G 0 dX8_member_144 rfl rfl ?_
            refine jv_if_eqN (q := 149) (tgt := 158) G dX8_member_146 (by decide) rfl (by omega) (fun c17 => ?_) (fun c17 => ?_)
            · refine jv_iload (q := 160) G 0 dX8_member_158 rfl rfl ?_
              refine jv_if_eqN (q := 163) (tgt := 196) G dX8_member_160 (by decide) rfl (by omega) (fun c18 => ?_) (fun c18 => ?_)
              · refine jv_iload (q := 198) G 0 dX8_member_196 rfl rfl ?_
                refine jv_if_eqN (q := 201) (tgt := 232) G dX8_member_198 (by decide) rfl (by omega) (fun c19 => ?_) (fun c19 => ?_)
                · refine jv_aload_n (q := 233) G 3 dX8_member_232 rfl rfl rfl ?_
                  refine jv_iload (q := 235) G 0 dX8_member_233 rfl rfl ?_
                  refine jv_if_neN (q := 238) (tgt := 242) G dX8_member_235 (by decide) rfl (by omega) (fun c20 => ?_) (fun c20 => ?_)
                  · omega
                  · refine jv_iconst (q := 239) (v := nI 3) G dX8_member_238 (by decide) rfl ?_
                    refine jv_goto (q := 259) G dX8_member_239 (by decide) ?_
                    refine jv_putI (q := 262) G dX8_member_259 fl_X8_122 rfl hS.1 rfl ?_
                    have hr1 : rs x q h1 (jv_wI h1 x 0 (nI 3)) := rs.rf.wI (nI 3) (Or.inl ⟨rfl, Or.inl rfl⟩)
                    have hth : jv_I (jv_wI h1 x 0 (nI 3)) x 0 = (nI 3) := jv_I_self _ _ _ _
                    have hR := hr1.R hR
                    have hrs := hrs.tr hr1
                    generalize jv_wI h1 x 0 (nI 3) = h21 at hth hR hrs ⊢
                    obtain ⟨hS, ⟨hn8, hn⟩, ⟨hm12, hm⟩, hD, hV, hCs⟩ := id hR
                    have hsc : sc x q h21 h21 := sc.rf
                    have hE := (hD k_e (by omega)).2
                    refine jv_aload_n (q := 263) G 3 dX8_member_262 rfl rfl rfl ?_
                    refine jv_getI (q := 266) G dX8_member_263 fl_X8_122 rfl hS.1 hth rfl ?_
                    refine jv_if_leN (q := 269) (tgt := 271) G dX8_member_266 (by decide) rfl (by omega) (fun c22 => ?_) (fun c22 => ?_)
                    · omega
                    · refine jv_iconst (q := 270) (v := nI 0) G dX8_member_269 (by decide) rfl ?_
                      refine jv_iret G hr dX8_member_270 (Nat.le_of_ble_eq_true rfl) (Nat.le_of_ble_eq_true rfl) ?_
                      refine pO.no (M := M) hS0 ?_ rfl hth hR hrs
                      exact m_opT_none zke hse (by assumption)
                · omega
              · omega
            · omega
          · omega
        · exact absurd rfl c15
    · refine jv_topI (y := nI (10 * k_e + k3)) (by rw [hk5]; rfl) ?_
      obtain ⟨t4, ht4, nt4, lt4⟩ := m_at_some hk5
      have Tt4 := (hE.2.2 k3 t4 ht4).1
      have Ot4 := (hE.2.2 k3 t4 ht4).2
      have Lt4 := hE.2.1
      have Bt4n := Ot4.1; have Bt4k := Ot4.2.1
      refine jv_istore (q := 26) (lo' := [(9, .int (nI (10 * k_e + k3))), (0, .ref x), (1, .int (nI k_e)), (2, .int n), (3, .int w), (4, .int o), (5, .int s), (6, .int a), (7, .int (jv_bI st)), (8, .int b)]) G dX8_member_24 (by decide) rfl rfl ?_
      refine jv_iload_n (q := 27) G 4 dX8_member_26 rfl rfl rfl ?_
      refine jv_iconst (q := 28) (v := nI 1) G dX8_member_27 (by decide) rfl ?_
      refine jv_icmp_ne (q := 31) (tgt := 35) G dX8_member_28 (by decide) rfl (fun c23 => ?_) (fun c23 => ?_)
      · refine jv_iconst (q := 36) (v := nI 0) G dX8_member_35 (by decide) rfl ?_
        refine jv_istore (q := 38) (lo' := [(10, .int (nI 0)), (9, .int (nI (10 * k_e + k3))), (0, .ref x), (1, .int (nI k_e)), (2, .int n), (3, .int w), (4, .int o), (5, .int s), (6, .int a), (7, .int (jv_bI st)), (8, .int b)]) G dX8_member_36 (by decide) rfl rfl ?_
        have hl6 := Ot4.2.2.2.2.2.1
        refine jv_iload (q := 40) G 1 dX8_member_38 rfl rfl ?_
        refine jv_iconst (q := 41) (v := (-1)) G dX8_member_40 (by decide) rfl ?_
        refine jv_icmp_eq (q := 44) (tgt := 108) G dX8_member_41 (by decide) rfl (fun c24 => ?_) (fun c24 => ?_)
        · exact absurd c24 (jv_nI_m1 (by omega))
        · refine jv_iload_n (q := 45) G 5 dX8_member_44 rfl rfl rfl ?_
          refine jv_iconst (q := 46) (v := nI 0) G dX8_member_45 (by decide) rfl ?_
          refine jv_iconst (q := 47) (v := nI 2) G dX8_member_46 (by decide) rfl ?_
          refine jv_callS_I (q := 50) (h1 := h1) (As := [.int w, .int (nI 0), .int (nI 2)]) (rest := []) (ce' := 0) (sl' := 0) (r := jv_bI (rr_in w (nI 0) (nI 2))) G Z ml_X8_147 (r_isIn hlt) dX8_member_47 rfl (by decide) (by decide) (by decide) (by decide) (Nat.le_of_ble_eq_true rfl) rfl rfl rfl rfl ?_
          refine jv_if_eqB (q := 53) (tgt := 108) G dX8_member_50 (by decide) rfl (fun c25 => ?_) (fun c25 => ?_)
          · refine jv_iconst (q := 109) (v := nI 0) G dX8_member_108 (by decide) rfl ?_
            refine jv_istore (q := 111) (lo' := [(11, .int (nI 0)), (10, .int (nI 0)), (9, .int (nI (10 * k_e + k3))), (0, .ref x), (1, .int (nI k_e)), (2, .int n), (3, .int w), (4, .int o), (5, .int s), (6, .int a), (7, .int (jv_bI st)), (8, .int b)]) G dX8_member_109 (by decide) rfl rfl ?_
            refine jv_iload (q := 113) G 0 dX8_member_111 rfl rfl ?_
            refine jv_if_eqN (q := 116) (tgt := 144) G dX8_member_113 (by decide) rfl (by omega) (fun c26 => ?_) (fun c26 => ?_)
            · refine jv_iload (q := 146) G 0 dX8_member_144 rfl rfl ?_
              refine jv_if_eqN (q := 149) (tgt := 158) G dX8_member_146 (by decide) rfl (by omega) (fun c27 => ?_) (fun c27 => ?_)
              · refine jv_iload (q := 160) G 0 dX8_member_158 rfl rfl ?_
                refine jv_if_eqN (q := 163) (tgt := 196) G dX8_member_160 (by decide) rfl (by omega) (fun c28 => ?_) (fun c28 => ?_)
                · refine jv_iload (q := 198) G 0 dX8_member_196 rfl rfl ?_
                  refine jv_if_eqN (q := 201) (tgt := 232) G dX8_member_198 (by decide) rfl (by omega) (fun c29 => ?_) (fun c29 => ?_)
                  · refine jv_aload_n (q := 233) G 3 dX8_member_232 rfl rfl rfl ?_
                    refine jv_iload (q := 235) G 0 dX8_member_233 rfl rfl ?_
                    refine jv_if_neN (q := 238) (tgt := 242) G dX8_member_235 (by decide) rfl (by omega) (fun c30 => ?_) (fun c30 => ?_)
                    · omega
                    · refine jv_iconst (q := 239) (v := nI 3) G dX8_member_238 (by decide) rfl ?_
                      refine jv_goto (q := 259) G dX8_member_239 (by decide) ?_
                      refine jv_putI (q := 262) G dX8_member_259 fl_X8_122 rfl hS.1 rfl ?_
                      have hr1 : rs x q h1 (jv_wI h1 x 0 (nI 3)) := rs.rf.wI (nI 3) (Or.inl ⟨rfl, Or.inl rfl⟩)
                      have hth : jv_I (jv_wI h1 x 0 (nI 3)) x 0 = (nI 3) := jv_I_self _ _ _ _
                      have hR := hr1.R hR
                      have hrs := hrs.tr hr1
                      generalize jv_wI h1 x 0 (nI 3) = h31 at hth hR hrs ⊢
                      obtain ⟨hS, ⟨hn8, hn⟩, ⟨hm12, hm⟩, hD, hV, hCs⟩ := id hR
                      have hsc : sc x q h31 h31 := sc.rf
                      have hE := (hD k_e (by omega)).2
                      have Tt4 := (hE.2.2 k3 t4 ht4).1
                      refine jv_aload_n (q := 263) G 3 dX8_member_262 rfl rfl rfl ?_
                      refine jv_getI (q := 266) G dX8_member_263 fl_X8_122 rfl hS.1 hth rfl ?_
                      refine jv_if_leN (q := 269) (tgt := 271) G dX8_member_266 (by decide) rfl (by omega) (fun c32 => ?_) (fun c32 => ?_)
                      · omega
                      · refine jv_iconst (q := 270) (v := nI 0) G dX8_member_269 (by decide) rfl ?_
                        refine jv_iret G hr dX8_member_270 (Nat.le_of_ble_eq_true rfl) (Nat.le_of_ble_eq_true rfl) ?_
                        refine pO.no (M := M) hS0 ?_ rfl hth hR hrs
                        unfold m_mb; rw [m_opT_yes zke hse (by assumption) ht4]; unfold m_mbG
                        simp only [*, nI_21, nI_12, nI_102, eq_self,  if_true, if_false, Bool.false_eq_true, reduceIte, Bool.and_true, Bool.and_false, Bool.true_and, Bool.false_and, Bool.not_true, Bool.not_false, Bool.true_or, Bool.or_true, Bool.false_or, Option.isNone_some, Option.isNone_none, decide_true, decide_false]
                  · omega
                · omega
              · omega
            · omega
          · refine jv_iload (q := 55) G 6 dX8_member_53 rfl rfl ?_
            refine jv_iconst (q := 56) (v := nI 0) G dX8_member_55 (by decide) rfl ?_
            refine jv_bipush (q := 58) (v := nI 15) G dX8_member_56 (by decide) rfl ?_
            refine jv_callS_I (q := 61) (h1 := h1) (As := [.int o, .int (nI 0), .int (nI 15)]) (rest := []) (ce' := 0) (sl' := 0) (r := jv_bI (rr_in o (nI 0) (nI 15))) G Z ml_X8_147 (r_isIn hlt) dX8_member_58 rfl (by decide) (by decide) (by decide) (by decide) (Nat.le_of_ble_eq_true rfl) rfl rfl rfl rfl ?_
            refine jv_if_eqB (q := 64) (tgt := 108) G dX8_member_61 (by decide) rfl (fun c33 => ?_) (fun c33 => ?_)
            · refine jv_iconst (q := 109) (v := nI 0) G dX8_member_108 (by decide) rfl ?_
              refine jv_istore (q := 111) (lo' := [(11, .int (nI 0)), (10, .int (nI 0)), (9, .int (nI (10 * k_e + k3))), (0, .ref x), (1, .int (nI k_e)), (2, .int n), (3, .int w), (4, .int o), (5, .int s), (6, .int a), (7, .int (jv_bI st)), (8, .int b)]) G dX8_member_109 (by decide) rfl rfl ?_
              refine jv_iload (q := 113) G 0 dX8_member_111 rfl rfl ?_
              refine jv_if_eqN (q := 116) (tgt := 144) G dX8_member_113 (by decide) rfl (by omega) (fun c34 => ?_) (fun c34 => ?_)
              · refine jv_iload (q := 146) G 0 dX8_member_144 rfl rfl ?_
                refine jv_if_eqN (q := 149) (tgt := 158) G dX8_member_146 (by decide) rfl (by omega) (fun c35 => ?_) (fun c35 => ?_)
                · refine jv_iload (q := 160) G 0 dX8_member_158 rfl rfl ?_
                  refine jv_if_eqN (q := 163) (tgt := 196) G dX8_member_160 (by decide) rfl (by omega) (fun c36 => ?_) (fun c36 => ?_)
                  · refine jv_iload (q := 198) G 0 dX8_member_196 rfl rfl ?_
                    refine jv_if_eqN (q := 201) (tgt := 232) G dX8_member_198 (by decide) rfl (by omega) (fun c37 => ?_) (fun c37 => ?_)
                    · refine jv_aload_n (q := 233) G 3 dX8_member_232 rfl rfl rfl ?_
                      refine jv_iload (q := 235) G 0 dX8_member_233 rfl rfl ?_
                      refine jv_if_neN (q := 238) (tgt := 242) G dX8_member_235 (by decide) rfl (by omega) (fun c38 => ?_) (fun c38 => ?_)
                      · omega
                      · refine jv_iconst (q := 239) (v := nI 3) G dX8_member_238 (by decide) rfl ?_
                        refine jv_goto (q := 259) G dX8_member_239 (by decide) ?_
                        refine jv_putI (q := 262) G dX8_member_259 fl_X8_122 rfl hS.1 rfl ?_
                        have hr1 : rs x q h1 (jv_wI h1 x 0 (nI 3)) := rs.rf.wI (nI 3) (Or.inl ⟨rfl, Or.inl rfl⟩)
                        have hth : jv_I (jv_wI h1 x 0 (nI 3)) x 0 = (nI 3) := jv_I_self _ _ _ _
                        have hR := hr1.R hR
                        have hrs := hrs.tr hr1
                        generalize jv_wI h1 x 0 (nI 3) = h39 at hth hR hrs ⊢
                        obtain ⟨hS, ⟨hn8, hn⟩, ⟨hm12, hm⟩, hD, hV, hCs⟩ := id hR
                        have hsc : sc x q h39 h39 := sc.rf
                        have hE := (hD k_e (by omega)).2
                        have Tt4 := (hE.2.2 k3 t4 ht4).1
                        refine jv_aload_n (q := 263) G 3 dX8_member_262 rfl rfl rfl ?_
                        refine jv_getI (q := 266) G dX8_member_263 fl_X8_122 rfl hS.1 hth rfl ?_
                        refine jv_if_leN (q := 269) (tgt := 271) G dX8_member_266 (by decide) rfl (by omega) (fun c40 => ?_) (fun c40 => ?_)
                        · omega
                        · refine jv_iconst (q := 270) (v := nI 0) G dX8_member_269 (by decide) rfl ?_
                          refine jv_iret G hr dX8_member_270 (Nat.le_of_ble_eq_true rfl) (Nat.le_of_ble_eq_true rfl) ?_
                          refine pO.no (M := M) hS0 ?_ rfl hth hR hrs
                          unfold m_mb; rw [m_opT_yes zke hse (by assumption) ht4]; unfold m_mbG
                          simp only [*, nI_21, nI_12, nI_102, eq_self,  if_true, if_false, Bool.false_eq_true, reduceIte, Bool.and_true, Bool.and_false, Bool.true_and, Bool.false_and, Bool.not_true, Bool.not_false, Bool.true_or, Bool.or_true, Bool.false_or, Option.isNone_some, Option.isNone_none, decide_true, decide_false]
                    · omega
                  · omega
                · omega
              · omega
            · refine jv_iload (q := 66) G 7 dX8_member_64 rfl rfl ?_
              refine jv_iconst (q := 67) (v := nI 0) G dX8_member_66 (by decide) rfl ?_
              refine jv_iconst (q := 68) (v := nI 3) G dX8_member_67 (by decide) rfl ?_
              refine jv_callS_I (q := 71) (h1 := h1) (As := [.int s, .int (nI 0), .int (nI 3)]) (rest := []) (ce' := 0) (sl' := 0) (r := jv_bI (rr_in s (nI 0) (nI 3))) G Z ml_X8_147 (r_isIn hlt) dX8_member_68 rfl (by decide) (by decide) (by decide) (by decide) (Nat.le_of_ble_eq_true rfl) rfl rfl rfl rfl ?_
              refine jv_if_eqB (q := 74) (tgt := 108) G dX8_member_71 (by decide) rfl (fun c41 => ?_) (fun c41 => ?_)
              · refine jv_iconst (q := 109) (v := nI 0) G dX8_member_108 (by decide) rfl ?_
                refine jv_istore (q := 111) (lo' := [(11, .int (nI 0)), (10, .int (nI 0)), (9, .int (nI (10 * k_e + k3))), (0, .ref x), (1, .int (nI k_e)), (2, .int n), (3, .int w), (4, .int o), (5, .int s), (6, .int a), (7, .int (jv_bI st)), (8, .int b)]) G dX8_member_109 (by decide) rfl rfl ?_
                refine jv_iload (q := 113) G 0 dX8_member_111 rfl rfl ?_
                refine jv_if_eqN (q := 116) (tgt := 144) G dX8_member_113 (by decide) rfl (by omega) (fun c42 => ?_) (fun c42 => ?_)
                · refine jv_iload (q := 146) G 0 dX8_member_144 rfl rfl ?_
                  refine jv_if_eqN (q := 149) (tgt := 158) G dX8_member_146 (by decide) rfl (by omega) (fun c43 => ?_) (fun c43 => ?_)
                  · refine jv_iload (q := 160) G 0 dX8_member_158 rfl rfl ?_
                    refine jv_if_eqN (q := 163) (tgt := 196) G dX8_member_160 (by decide) rfl (by omega) (fun c44 => ?_) (fun c44 => ?_)
                    · refine jv_iload (q := 198) G 0 dX8_member_196 rfl rfl ?_
                      refine jv_if_eqN (q := 201) (tgt := 232) G dX8_member_198 (by decide) rfl (by omega) (fun c45 => ?_) (fun c45 => ?_)
                      · refine jv_aload_n (q := 233) G 3 dX8_member_232 rfl rfl rfl ?_
                        refine jv_iload (q := 235) G 0 dX8_member_233 rfl rfl ?_
                        refine jv_if_neN (q := 238) (tgt := 242) G dX8_member_235 (by decide) rfl (by omega) (fun c46 => ?_) (fun c46 => ?_)
                        · omega
                        · refine jv_iconst (q := 239) (v := nI 3) G dX8_member_238 (by decide) rfl ?_
                          refine jv_goto (q := 259) G dX8_member_239 (by decide) ?_
                          refine jv_putI (q := 262) G dX8_member_259 fl_X8_122 rfl hS.1 rfl ?_
                          have hr1 : rs x q h1 (jv_wI h1 x 0 (nI 3)) := rs.rf.wI (nI 3) (Or.inl ⟨rfl, Or.inl rfl⟩)
                          have hth : jv_I (jv_wI h1 x 0 (nI 3)) x 0 = (nI 3) := jv_I_self _ _ _ _
                          have hR := hr1.R hR
                          have hrs := hrs.tr hr1
                          generalize jv_wI h1 x 0 (nI 3) = h47 at hth hR hrs ⊢
                          obtain ⟨hS, ⟨hn8, hn⟩, ⟨hm12, hm⟩, hD, hV, hCs⟩ := id hR
                          have hsc : sc x q h47 h47 := sc.rf
                          have hE := (hD k_e (by omega)).2
                          have Tt4 := (hE.2.2 k3 t4 ht4).1
                          refine jv_aload_n (q := 263) G 3 dX8_member_262 rfl rfl rfl ?_
                          refine jv_getI (q := 266) G dX8_member_263 fl_X8_122 rfl hS.1 hth rfl ?_
                          refine jv_if_leN (q := 269) (tgt := 271) G dX8_member_266 (by decide) rfl (by omega) (fun c48 => ?_) (fun c48 => ?_)
                          · omega
                          · refine jv_iconst (q := 270) (v := nI 0) G dX8_member_269 (by decide) rfl ?_
                            refine jv_iret G hr dX8_member_270 (Nat.le_of_ble_eq_true rfl) (Nat.le_of_ble_eq_true rfl) ?_
                            refine pO.no (M := M) hS0 ?_ rfl hth hR hrs
                            unfold m_mb; rw [m_opT_yes zke hse (by assumption) ht4]; unfold m_mbG
                            simp only [*, nI_21, nI_12, nI_102, eq_self,  if_true, if_false, Bool.false_eq_true, reduceIte, Bool.and_true, Bool.and_false, Bool.true_and, Bool.false_and, Bool.not_true, Bool.not_false, Bool.true_or, Bool.or_true, Bool.false_or, Option.isNone_some, Option.isNone_none, decide_true, decide_false]
                      · omega
                    · omega
                  · omega
                · omega
              · refine jv_iload (q := 76) G 8 dX8_member_74 rfl rfl ?_
                refine jv_iconst (q := 77) (v := nI 0) G dX8_member_76 (by decide) rfl ?_
                refine jv_iconst (q := 78) (v := nI 3) G dX8_member_77 (by decide) rfl ?_
                refine jv_callS_I (q := 81) (h1 := h1) (As := [.int a, .int (nI 0), .int (nI 3)]) (rest := []) (ce' := 0) (sl' := 0) (r := jv_bI (rr_in a (nI 0) (nI 3))) G Z ml_X8_147 (r_isIn hlt) dX8_member_78 rfl (by decide) (by decide) (by decide) (by decide) (Nat.le_of_ble_eq_true rfl) rfl rfl rfl rfl ?_
                refine jv_if_eqB (q := 84) (tgt := 108) G dX8_member_81 (by decide) rfl (fun c49 => ?_) (fun c49 => ?_)
                · refine jv_iconst (q := 109) (v := nI 0) G dX8_member_108 (by decide) rfl ?_
                  refine jv_istore (q := 111) (lo' := [(11, .int (nI 0)), (10, .int (nI 0)), (9, .int (nI (10 * k_e + k3))), (0, .ref x), (1, .int (nI k_e)), (2, .int n), (3, .int w), (4, .int o), (5, .int s), (6, .int a), (7, .int (jv_bI st)), (8, .int b)]) G dX8_member_109 (by decide) rfl rfl ?_
                  refine jv_iload (q := 113) G 0 dX8_member_111 rfl rfl ?_
                  refine jv_if_eqN (q := 116) (tgt := 144) G dX8_member_113 (by decide) rfl (by omega) (fun c50 => ?_) (fun c50 => ?_)
                  · refine jv_iload (q := 146) G 0 dX8_member_144 rfl rfl ?_
                    refine jv_if_eqN (q := 149) (tgt := 158) G dX8_member_146 (by decide) rfl (by omega) (fun c51 => ?_) (fun c51 => ?_)
                    · refine jv_iload (q := 160) G 0 dX8_member_158 rfl rfl ?_
                      refine jv_if_eqN (q := 163) (tgt := 196) G dX8_member_160 (by decide) rfl (by omega) (fun c52 => ?_) (fun c52 => ?_)
                      · refine jv_iload (q := 198) G 0 dX8_member_196 rfl rfl ?_
                        refine jv_if_eqN (q := 201) (tgt := 232) G dX8_member_198 (by decide) rfl (by omega) (fun c53 => ?_) (fun c53 => ?_)
                        · refine jv_aload_n (q := 233) G 3 dX8_member_232 rfl rfl rfl ?_
                          refine jv_iload (q := 235) G 0 dX8_member_233 rfl rfl ?_
                          refine jv_if_neN (q := 238) (tgt := 242) G dX8_member_235 (by decide) rfl (by omega) (fun c54 => ?_) (fun c54 => ?_)
                          · omega
                          · refine jv_iconst (q := 239) (v := nI 3) G dX8_member_238 (by decide) rfl ?_
                            refine jv_goto (q := 259) G dX8_member_239 (by decide) ?_
                            refine jv_putI (q := 262) G dX8_member_259 fl_X8_122 rfl hS.1 rfl ?_
                            have hr1 : rs x q h1 (jv_wI h1 x 0 (nI 3)) := rs.rf.wI (nI 3) (Or.inl ⟨rfl, Or.inl rfl⟩)
                            have hth : jv_I (jv_wI h1 x 0 (nI 3)) x 0 = (nI 3) := jv_I_self _ _ _ _
                            have hR := hr1.R hR
                            have hrs := hrs.tr hr1
                            generalize jv_wI h1 x 0 (nI 3) = h55 at hth hR hrs ⊢
                            obtain ⟨hS, ⟨hn8, hn⟩, ⟨hm12, hm⟩, hD, hV, hCs⟩ := id hR
                            have hsc : sc x q h55 h55 := sc.rf
                            have hE := (hD k_e (by omega)).2
                            have Tt4 := (hE.2.2 k3 t4 ht4).1
                            refine jv_aload_n (q := 263) G 3 dX8_member_262 rfl rfl rfl ?_
                            refine jv_getI (q := 266) G dX8_member_263 fl_X8_122 rfl hS.1 hth rfl ?_
                            refine jv_if_leN (q := 269) (tgt := 271) G dX8_member_266 (by decide) rfl (by omega) (fun c56 => ?_) (fun c56 => ?_)
                            · omega
                            · refine jv_iconst (q := 270) (v := nI 0) G dX8_member_269 (by decide) rfl ?_
                              refine jv_iret G hr dX8_member_270 (Nat.le_of_ble_eq_true rfl) (Nat.le_of_ble_eq_true rfl) ?_
                              refine pO.no (M := M) hS0 ?_ rfl hth hR hrs
                              unfold m_mb; rw [m_opT_yes zke hse (by assumption) ht4]; unfold m_mbG
                              simp only [*, nI_21, nI_12, nI_102, eq_self,  if_true, if_false, Bool.false_eq_true, reduceIte, Bool.and_true, Bool.and_false, Bool.true_and, Bool.false_and, Bool.not_true, Bool.not_false, Bool.true_or, Bool.or_true, Bool.false_or, Option.isNone_some, Option.isNone_none, decide_true, decide_false]
                        · omega
                      · omega
                    · omega
                  · omega
                · refine jv_iload (q := 86) G 10 dX8_member_84 rfl rfl ?_
                  refine jv_iload (q := 88) G 0 dX8_member_86 rfl rfl ?_
                  refine jv_if_eqN (q := 91) (tgt := 95) G dX8_member_88 (by decide) rfl (by omega) (fun c57 => ?_) (fun c57 => ?_)
                  · refine jv_iconst (q := 96) (v := nI 0) G dX8_member_95 (by decide) rfl ?_
                    refine jv_bipush (q := 98) (v := nI 9) G dX8_member_96 (by decide) rfl ?_
                    refine jv_callS_I (q := 101) (h1 := h1) (As := [.int b, .int (nI 0), .int (nI 9)]) (rest := []) (ce' := 0) (sl' := 0) (r := jv_bI (rr_in b (nI 0) (nI 9))) G Z ml_X8_147 (r_isIn hlt) dX8_member_98 rfl (by decide) (by decide) (by decide) (by decide) (Nat.le_of_ble_eq_true rfl) rfl rfl rfl rfl ?_
                    refine jv_if_eqB (q := 104) (tgt := 108) G dX8_member_101 (by decide) rfl (fun c58 => ?_) (fun c58 => ?_)
                    · refine jv_iconst (q := 109) (v := nI 0) G dX8_member_108 (by decide) rfl ?_
                      refine jv_istore (q := 111) (lo' := [(11, .int (nI 0)), (10, .int (nI 0)), (9, .int (nI (10 * k_e + k3))), (0, .ref x), (1, .int (nI k_e)), (2, .int n), (3, .int w), (4, .int o), (5, .int s), (6, .int a), (7, .int (jv_bI st)), (8, .int b)]) G dX8_member_109 (by decide) rfl rfl ?_
                      refine jv_iload (q := 113) G 0 dX8_member_111 rfl rfl ?_
                      refine jv_if_eqN (q := 116) (tgt := 144) G dX8_member_113 (by decide) rfl (by omega) (fun c59 => ?_) (fun c59 => ?_)
                      · refine jv_iload (q := 146) G 0 dX8_member_144 rfl rfl ?_
                        refine jv_if_eqN (q := 149) (tgt := 158) G dX8_member_146 (by decide) rfl (by omega) (fun c60 => ?_) (fun c60 => ?_)
                        · refine jv_iload (q := 160) G 0 dX8_member_158 rfl rfl ?_
                          refine jv_if_eqN (q := 163) (tgt := 196) G dX8_member_160 (by decide) rfl (by omega) (fun c61 => ?_) (fun c61 => ?_)
                          · refine jv_iload (q := 198) G 0 dX8_member_196 rfl rfl ?_
                            refine jv_if_eqN (q := 201) (tgt := 232) G dX8_member_198 (by decide) rfl (by omega) (fun c62 => ?_) (fun c62 => ?_)
                            · refine jv_aload_n (q := 233) G 3 dX8_member_232 rfl rfl rfl ?_
                              refine jv_iload (q := 235) G 0 dX8_member_233 rfl rfl ?_
                              refine jv_if_neN (q := 238) (tgt := 242) G dX8_member_235 (by decide) rfl (by omega) (fun c63 => ?_) (fun c63 => ?_)
                              · omega
                              · refine jv_iconst (q := 239) (v := nI 3) G dX8_member_238 (by decide) rfl ?_
                                refine jv_goto (q := 259) G dX8_member_239 (by decide) ?_
                                refine jv_putI (q := 262) G dX8_member_259 fl_X8_122 rfl hS.1 rfl ?_
                                have hr1 : rs x q h1 (jv_wI h1 x 0 (nI 3)) := rs.rf.wI (nI 3) (Or.inl ⟨rfl, Or.inl rfl⟩)
                                have hth : jv_I (jv_wI h1 x 0 (nI 3)) x 0 = (nI 3) := jv_I_self _ _ _ _
                                have hR := hr1.R hR
                                have hrs := hrs.tr hr1
                                generalize jv_wI h1 x 0 (nI 3) = h64 at hth hR hrs ⊢
                                obtain ⟨hS, ⟨hn8, hn⟩, ⟨hm12, hm⟩, hD, hV, hCs⟩ := id hR
                                have hsc : sc x q h64 h64 := sc.rf
                                have hE := (hD k_e (by omega)).2
                                have Tt4 := (hE.2.2 k3 t4 ht4).1
                                refine jv_aload_n (q := 263) G 3 dX8_member_262 rfl rfl rfl ?_
                                refine jv_getI (q := 266) G dX8_member_263 fl_X8_122 rfl hS.1 hth rfl ?_
                                refine jv_if_leN (q := 269) (tgt := 271) G dX8_member_266 (by decide) rfl (by omega) (fun c65 => ?_) (fun c65 => ?_)
                                · omega
                                · refine jv_iconst (q := 270) (v := nI 0) G dX8_member_269 (by decide) rfl ?_
                                  refine jv_iret G hr dX8_member_270 (Nat.le_of_ble_eq_true rfl) (Nat.le_of_ble_eq_true rfl) ?_
                                  refine pO.no (M := M) hS0 ?_ rfl hth hR hrs
                                  unfold m_mb; rw [m_opT_yes zke hse (by assumption) ht4]; unfold m_mbG
                                  simp only [*, nI_21, nI_12, nI_102, eq_self,  if_true, if_false, Bool.false_eq_true, reduceIte, Bool.and_true, Bool.and_false, Bool.true_and, Bool.false_and, Bool.not_true, Bool.not_false, Bool.true_or, Bool.or_true, Bool.false_or, Option.isNone_some, Option.isNone_none, decide_true, decide_false]
                            · omega
                          · omega
                        · omega
                      · omega
                    · refine jv_iconst (q := 105) (v := nI 1) G dX8_member_104 (by decide) rfl ?_
                      refine jv_goto (q := 109) G dX8_member_105 (by decide) ?_
                      refine jv_istore (q := 111) (lo' := [(11, .int (nI 1)), (10, .int (nI 0)), (9, .int (nI (10 * k_e + k3))), (0, .ref x), (1, .int (nI k_e)), (2, .int n), (3, .int w), (4, .int o), (5, .int s), (6, .int a), (7, .int (jv_bI st)), (8, .int b)]) G dX8_member_109 (by decide) rfl rfl ?_
                      refine jv_iload (q := 113) G 0 dX8_member_111 rfl rfl ?_
                      refine jv_if_eqN (q := 116) (tgt := 144) G dX8_member_113 (by decide) rfl (by omega) (fun c66 => ?_) (fun c66 => ?_)
                      · omega
                      · refine jv_iload (q := 118) G 1 dX8_member_116 rfl rfl ?_
                        refine jv_if_eqN (q := 121) (tgt := 144) G dX8_member_118 (by decide) rfl (by omega) (fun c67 => ?_) (fun c67 => ?_)
                        · refine jv_iload (q := 146) G 0 dX8_member_144 rfl rfl ?_
                          refine jv_if_eqN (q := 149) (tgt := 158) G dX8_member_146 (by decide) rfl (by omega) (fun c68 => ?_) (fun c68 => ?_)
                          · omega
                          · refine jv_iload_n (q := 150) G 6 dX8_member_149 rfl rfl rfl ?_
                            refine jv_iconst (q := 151) (v := nI 2) G dX8_member_150 (by decide) rfl ?_
                            refine jv_icmp_ne (q := 154) (tgt := 158) G dX8_member_151 (by decide) rfl (fun c69 => ?_) (fun c69 => ?_)
                            · refine jv_iload (q := 160) G 0 dX8_member_158 rfl rfl ?_
                              refine jv_if_eqN (q := 163) (tgt := 196) G dX8_member_160 (by decide) rfl (by omega) (fun c70 => ?_) (fun c70 => ?_)
                              · omega
                              · refine jv_aload_n (q := 164) G 3 dX8_member_163 rfl rfl rfl ?_
                                refine jv_getQ (q := 167) G dX8_member_164 fl_X8_20 rfl hS.1 (rf_p5 hS) rfl ?_
                                refine jv_iload (q := 169) G 2 dX8_member_167 rfl rfl ?_
                                refine jv_zald (q := 170) G dX8_member_169 (rf_a5 hS) rfl (by omega) (by decide) (rt_5 (hsc.T hS Tt4)) rfl ?_
                                refine jv_if_eqB (q := 173) (tgt := 196) G dX8_member_170 (by decide) rfl (fun c71 => ?_) (fun c71 => ?_)
                                · refine jv_iload (q := 198) G 0 dX8_member_196 rfl rfl ?_
                                  refine jv_if_eqN (q := 201) (tgt := 232) G dX8_member_198 (by decide) rfl (by omega) (fun c72 => ?_) (fun c72 => ?_)
                                  · omega
                                  · refine jv_aload_n (q := 202) G 3 dX8_member_201 rfl rfl rfl ?_
                                    refine jv_iload (q := 204) G 2 dX8_member_202 rfl rfl ?_
                                    refine jv_iload (q := 206) G 1 dX8_member_204 rfl rfl ?_
                                    refine jv_if_eqN (q := 209) (tgt := 213) G dX8_member_206 (by decide) rfl (by omega) (fun c73 => ?_) (fun c73 => ?_)
                                    · refine jv_iconst (q := 214) (v := nI 0) G dX8_member_213 (by decide) rfl ?_
                                      refine jv_iload (q := 216) G 7 dX8_member_214 rfl rfl ?_
                                      refine jv_iload (q := 218) G 8 dX8_member_216 rfl rfl ?_
                                      refine jv_callV_I (q := 221) (h1 := h1) (As := [.int (nI (10 * k_e + k3)), .int (nI 0), .int o, .int s]) (rest := []) (ce' := 0) (sl' := 0) (r := jv_oN ((m_own t4 (nI 0) o s).map (fun j => 6 * (10 * k_e + k3) + j))) G Z ml_X8_155 (r_own hlt (hsc.S hS) (by omega) (hsc.T hS Tt4) Ot4) hS.1 dX8_member_218 rfl (by decide) (by decide) (by decide) (by decide) (Nat.le_of_ble_eq_true rfl) rfl rfl rfl rfl ?_
                                      rcases Option.eq_none_or_eq_some (m_own t4 (nI 0) o s) with hj76 | ⟨j74, hj76⟩
                                      · refine jv_topI (y := (-1)) (by rw [hj76]; rfl) ?_
                                        refine jv_iconst (q := 222) (v := (-1)) G dX8_member_221 (by decide) rfl ?_
                                        refine jv_icmp_ne (q := 225) (tgt := 229) G dX8_member_222 (by decide) rfl (fun c77 => ?_) (fun c77 => ?_)
                                        · exact absurd rfl c77
                                        · refine jv_iconst (q := 226) (v := nI 1) G dX8_member_225 (by decide) rfl ?_
                                          refine jv_goto (q := 230) G dX8_member_226 (by decide) ?_
                                          refine jv_istore (q := 232) (lo' := [(11, .int (nI 1)), (10, .int (nI 0)), (9, .int (nI (10 * k_e + k3))), (0, .ref x), (1, .int (nI k_e)), (2, .int n), (3, .int w), (4, .int o), (5, .int s), (6, .int a), (7, .int (jv_bI st)), (8, .int b)]) G dX8_member_230 (by decide) rfl rfl ?_
                                          refine jv_aload_n (q := 233) G 3 dX8_member_232 rfl rfl rfl ?_
                                          refine jv_iload (q := 235) G 0 dX8_member_233 rfl rfl ?_
                                          refine jv_if_neN (q := 238) (tgt := 242) G dX8_member_235 (by decide) rfl (by omega) (fun c78 => ?_) (fun c78 => ?_)
                                          · refine jv_aload_n (q := 243) G 3 dX8_member_242 rfl rfl rfl ?_
                                            refine jv_getQ (q := 246) G dX8_member_243 fl_X8_41 rfl hS.1 (rf_p12 hS) rfl ?_
                                            refine jv_iload (q := 248) G 2 dX8_member_246 rfl rfl ?_
                                            refine jv_iald (q := 249) G dX8_member_248 (rf_a12 hS) rfl (by omega) (by decide) (rt_12 (hsc.T hS Tt4)) rfl ?_
                                            refine jv_bipush (q := 251) (v := nI 6) G dX8_member_249 (by decide) rfl ?_
                                            refine jv_icmp_neN (q := 254) (tgt := 258) G dX8_member_251 (by decide) rfl (by omega) (by omega) (fun c79 => ?_) (fun c79 => ?_)
                                            · refine jv_iconst (q := 259) (v := nI 0) G dX8_member_258 (by decide) rfl ?_
                                              refine jv_putI (q := 262) G dX8_member_259 fl_X8_122 rfl hS.1 rfl ?_
                                              have hr1 : rs x q h1 (jv_wI h1 x 0 (nI 0)) := rs.rf.wI (nI 0) (Or.inl ⟨rfl, Or.inl rfl⟩)
                                              have hth : jv_I (jv_wI h1 x 0 (nI 0)) x 0 = (nI 0) := jv_I_self _ _ _ _
                                              have hR := hr1.R hR
                                              have hrs := hrs.tr hr1
                                              generalize jv_wI h1 x 0 (nI 0) = h80 at hth hR hrs ⊢
                                              obtain ⟨hS, ⟨hn8, hn⟩, ⟨hm12, hm⟩, hD, hV, hCs⟩ := id hR
                                              have hsc : sc x q h80 h80 := sc.rf
                                              have hE := (hD k_e (by omega)).2
                                              have Tt4 := (hE.2.2 k3 t4 ht4).1
                                              refine jv_aload_n (q := 263) G 3 dX8_member_262 rfl rfl rfl ?_
                                              refine jv_getI (q := 266) G dX8_member_263 fl_X8_122 rfl hS.1 hth rfl ?_
                                              refine jv_if_leN (q := 269) (tgt := 271) G dX8_member_266 (by decide) rfl (by omega) (fun c81 => ?_) (fun c81 => ?_)
                                              · have c2 : jv_I h80 (q 2) k_e = jv_bI false := (hD k_e (by omega)).1.trans (by rw [hse])
                                                have c12 := rt_12 Tt4
                                                have hl6 := Ot4.2.2.2.2.2.1
                                                have hF : FW (fun k j => (k = 12 ∧ j = 10 * k_e + k3) ∨ (k_m k ∧ j = 6 * (10 * k_e + k3) + (mt_m t4).length)) xcr x q h80 h80 := FW.rf
                                                have hSn := hS
                                                refine jv_bipush (q := 273) (v := nI 6) G dX8_member_271 (by decide) rfl ?_
                                                refine jv_iload (q := 275) G 2 dX8_member_273 rfl rfl ?_
                                                refine jv_imulN (q := 276) G dX8_member_275 rfl ?_
                                                refine jv_aload_n (q := 277) G 3 dX8_member_276 rfl rfl rfl ?_
                                                refine jv_getQ (q := 280) G dX8_member_277 fl_X8_41 rfl hS.1 (rf_p12 hS) rfl ?_
                                                refine jv_iload (q := 282) G 2 dX8_member_280 rfl rfl ?_
                                                refine jv_iald (q := 283) G dX8_member_282 (rf_a12 hS) rfl (by omega) (by decide) (rt_12 (hsc.T hS Tt4)) rfl ?_
                                                refine jv_iaddN (q := 284) G dX8_member_283 rfl ?_
                                                refine jv_istore (q := 286) (lo' := [(12, .int (nI ((6 * (10 * k_e + k3)) + ((mt_m t4).length)))), (11, .int (nI 1)), (10, .int (nI 0)), (9, .int (nI (10 * k_e + k3))), (0, .ref x), (1, .int (nI k_e)), (2, .int n), (3, .int w), (4, .int o), (5, .int s), (6, .int a), (7, .int (jv_bI st)), (8, .int b)]) G dX8_member_284 (by decide) rfl rfl ?_
                                                refine jv_aload_n (q := 287) G 4 dX8_member_286 rfl rfl rfl ?_
                                                refine jv_getQ (q := 290) G dX8_member_287 fl_X8_41 rfl hS.1 (rf_p12 hS) rfl ?_
                                                refine jv_iload (q := 292) G 3 dX8_member_290 rfl rfl ?_
                                                refine jv_dup2 (q := 293) G dX8_member_292 rfl rfl rfl ?_
                                                refine jv_iald (q := 294) G dX8_member_293 (rf_a12 hS) rfl (by omega) (by decide) (rt_12 (hsc.T hS Tt4)) rfl ?_
                                                refine jv_iconst (q := 295) (v := nI 1) G dX8_member_294 (by decide) rfl ?_
                                                refine jv_iaddN (q := 296) G dX8_member_295 rfl ?_
                                                refine jv_iast (q := 297) G dX8_member_296 (rf_a12 hS) rfl (by omega) (by decide) rfl ?_
                                                have hF := hF.wq hS (k := 12) (j := 10 * k_e + k3) (by decide) rfl (Or.inl ⟨rfl, rfl⟩) (nI (((mt_m t4).length) + 1))
                                                have hSn2 := hF.S hS
                                                have c2 := (qI_q hSn (k := 2) (k' := 12) (h := h80) (by decide) rfl (by decide) rfl (k_e) (10 * k_e + k3) (nI (((mt_m t4).length) + 1))).trans ((if_neg (fun e => absurd e.1 (by decide))).trans c2)
                                                have hth := (xI_q hSn (k := 12) (h := h80) (by decide) rfl 0 (10 * k_e + k3) (nI (((mt_m t4).length) + 1))).trans hth
                                                have c_12_82 : jv_I (jv_wI h80 (q 12) (10 * k_e + k3) (nI (((mt_m t4).length) + 1))) (q 12) (10 * k_e + k3) = nI (((mt_m t4).length) + 1) := jv_I_self _ _ _ _
                                                generalize jv_wI h80 (q 12) (10 * k_e + k3) (nI (((mt_m t4).length) + 1)) = h82 at hF hSn2 c2 hth c_12_82 ⊢
                                                clear hSn; have hSn := hSn2; clear hSn2
                                                refine jv_aload_n (q := 298) G 4 dX8_member_297 rfl rfl rfl ?_
                                                refine jv_getQ (q := 301) G dX8_member_298 fl_X8_44 rfl hSn.1 (rf_p13 hSn) rfl ?_
                                                refine jv_iload (q := 303) G 0 dX8_member_301 rfl rfl ?_
                                                refine jv_iload (q := 305) G 2 dX8_member_303 rfl rfl ?_
                                                refine jv_if_eqN (q := 308) (tgt := 312) G dX8_member_305 (by decide) rfl (by omega) (fun c83 => ?_) (fun c83 => ?_)
                                                · refine jv_iconst (q := 313) (v := nI 0) G dX8_member_312 (by decide) rfl ?_
                                                  refine jv_iast (q := 314) G dX8_member_313 (rf_a13 hSn) rfl (by omega) (by decide) rfl ?_
                                                  have hF := hF.wq hS (k := 13) (j := (6 * (10 * k_e + k3)) + ((mt_m t4).length)) (by decide) rfl (Or.inr ⟨by unfold k_m; omega, rfl⟩) (nI 0)
                                                  have hSn2 := hF.S hS
                                                  have c2 := (qI_q hSn (k := 2) (k' := 13) (h := h82) (by decide) rfl (by decide) rfl (k_e) ((6 * (10 * k_e + k3)) + ((mt_m t4).length)) (nI 0)).trans ((if_neg (fun e => absurd e.1 (by decide))).trans c2)
                                                  have c_12_82 := (qI_q hSn (k := 12) (k' := 13) (h := h82) (by decide) rfl (by decide) rfl (10 * k_e + k3) ((6 * (10 * k_e + k3)) + ((mt_m t4).length)) (nI 0)).trans ((if_neg (fun e => absurd e.1 (by decide))).trans c_12_82)
                                                  have hth := (xI_q hSn (k := 13) (h := h82) (by decide) rfl 0 ((6 * (10 * k_e + k3)) + ((mt_m t4).length)) (nI 0)).trans hth
                                                  have c_13_84 : jv_I (jv_wI h82 (q 13) ((6 * (10 * k_e + k3)) + ((mt_m t4).length)) (nI 0)) (q 13) ((6 * (10 * k_e + k3)) + ((mt_m t4).length)) = nI 0 := jv_I_self _ _ _ _
                                                  generalize jv_wI h82 (q 13) ((6 * (10 * k_e + k3)) + ((mt_m t4).length)) (nI 0) = h84 at hF hSn2 c2 c_12_82 hth c_13_84 ⊢
                                                  clear hSn; have hSn := hSn2; clear hSn2
                                                  refine jv_aload_n (q := 315) G 4 dX8_member_314 rfl rfl rfl ?_
                                                  refine jv_getQ (q := 318) G dX8_member_315 fl_X8_47 rfl hSn.1 (rf_p14 hSn) rfl ?_
                                                  refine jv_iload (q := 320) G 0 dX8_member_318 rfl rfl ?_
                                                  refine jv_iload (q := 322) G 8 dX8_member_320 rfl rfl ?_
                                                  refine jv_iast (q := 323) G dX8_member_322 (rf_a14 hSn) rfl (by omega) (by decide) rfl ?_
                                                  have hF := hF.wq hS (k := 14) (j := (6 * (10 * k_e + k3)) + ((mt_m t4).length)) (by decide) rfl (Or.inr ⟨by unfold k_m; omega, rfl⟩) (o)
                                                  have hSn2 := hF.S hS
                                                  have c2 := (qI_q hSn (k := 2) (k' := 14) (h := h84) (by decide) rfl (by decide) rfl (k_e) ((6 * (10 * k_e + k3)) + ((mt_m t4).length)) (o)).trans ((if_neg (fun e => absurd e.1 (by decide))).trans c2)
                                                  have c_12_82 := (qI_q hSn (k := 12) (k' := 14) (h := h84) (by decide) rfl (by decide) rfl (10 * k_e + k3) ((6 * (10 * k_e + k3)) + ((mt_m t4).length)) (o)).trans ((if_neg (fun e => absurd e.1 (by decide))).trans c_12_82)
                                                  have c_13_84 := (qI_q hSn (k := 13) (k' := 14) (h := h84) (by decide) rfl (by decide) rfl ((6 * (10 * k_e + k3)) + ((mt_m t4).length)) ((6 * (10 * k_e + k3)) + ((mt_m t4).length)) (o)).trans ((if_neg (fun e => absurd e.1 (by decide))).trans c_13_84)
                                                  have hth := (xI_q hSn (k := 14) (h := h84) (by decide) rfl 0 ((6 * (10 * k_e + k3)) + ((mt_m t4).length)) (o)).trans hth
                                                  have c_14_85 : jv_I (jv_wI h84 (q 14) ((6 * (10 * k_e + k3)) + ((mt_m t4).length)) o) (q 14) ((6 * (10 * k_e + k3)) + ((mt_m t4).length)) = o := jv_I_self _ _ _ _
                                                  generalize jv_wI h84 (q 14) ((6 * (10 * k_e + k3)) + ((mt_m t4).length)) o = h85 at hF hSn2 c2 c_12_82 c_13_84 hth c_14_85 ⊢
                                                  clear hSn; have hSn := hSn2; clear hSn2
                                                  refine jv_aload_n (q := 324) G 4 dX8_member_323 rfl rfl rfl ?_
                                                  refine jv_getQ (q := 327) G dX8_member_324 fl_X8_50 rfl hSn.1 (rf_p15 hSn) rfl ?_
                                                  refine jv_iload (q := 329) G 0 dX8_member_327 rfl rfl ?_
                                                  refine jv_iload (q := 331) G 9 dX8_member_329 rfl rfl ?_
                                                  refine jv_iast (q := 332) G dX8_member_331 (rf_a15 hSn) rfl (by omega) (by decide) rfl ?_
                                                  have hF := hF.wq hS (k := 15) (j := (6 * (10 * k_e + k3)) + ((mt_m t4).length)) (by decide) rfl (Or.inr ⟨by unfold k_m; omega, rfl⟩) (s)
                                                  have hSn2 := hF.S hS
                                                  have c2 := (qI_q hSn (k := 2) (k' := 15) (h := h85) (by decide) rfl (by decide) rfl (k_e) ((6 * (10 * k_e + k3)) + ((mt_m t4).length)) (s)).trans ((if_neg (fun e => absurd e.1 (by decide))).trans c2)
                                                  have c_12_82 := (qI_q hSn (k := 12) (k' := 15) (h := h85) (by decide) rfl (by decide) rfl (10 * k_e + k3) ((6 * (10 * k_e + k3)) + ((mt_m t4).length)) (s)).trans ((if_neg (fun e => absurd e.1 (by decide))).trans c_12_82)
                                                  have c_13_84 := (qI_q hSn (k := 13) (k' := 15) (h := h85) (by decide) rfl (by decide) rfl ((6 * (10 * k_e + k3)) + ((mt_m t4).length)) ((6 * (10 * k_e + k3)) + ((mt_m t4).length)) (s)).trans ((if_neg (fun e => absurd e.1 (by decide))).trans c_13_84)
                                                  have c_14_85 := (qI_q hSn (k := 14) (k' := 15) (h := h85) (by decide) rfl (by decide) rfl ((6 * (10 * k_e + k3)) + ((mt_m t4).length)) ((6 * (10 * k_e + k3)) + ((mt_m t4).length)) (s)).trans ((if_neg (fun e => absurd e.1 (by decide))).trans c_14_85)
                                                  have hth := (xI_q hSn (k := 15) (h := h85) (by decide) rfl 0 ((6 * (10 * k_e + k3)) + ((mt_m t4).length)) (s)).trans hth
                                                  have c_15_86 : jv_I (jv_wI h85 (q 15) ((6 * (10 * k_e + k3)) + ((mt_m t4).length)) s) (q 15) ((6 * (10 * k_e + k3)) + ((mt_m t4).length)) = s := jv_I_self _ _ _ _
                                                  generalize jv_wI h85 (q 15) ((6 * (10 * k_e + k3)) + ((mt_m t4).length)) s = h86 at hF hSn2 c2 c_12_82 c_13_84 c_14_85 hth c_15_86 ⊢
                                                  clear hSn; have hSn := hSn2; clear hSn2
                                                  refine jv_aload_n (q := 333) G 4 dX8_member_332 rfl rfl rfl ?_
                                                  refine jv_getQ (q := 336) G dX8_member_333 fl_X8_53 rfl hSn.1 (rf_p16 hSn) rfl ?_
                                                  refine jv_iload (q := 338) G 0 dX8_member_336 rfl rfl ?_
                                                  refine jv_iload (q := 340) G 10 dX8_member_338 rfl rfl ?_
                                                  refine jv_iast (q := 341) G dX8_member_340 (rf_a16 hSn) rfl (by omega) (by decide) rfl ?_
                                                  have hF := hF.wq hS (k := 16) (j := (6 * (10 * k_e + k3)) + ((mt_m t4).length)) (by decide) rfl (Or.inr ⟨by unfold k_m; omega, rfl⟩) (a)
                                                  have hSn2 := hF.S hS
                                                  have c2 := (qI_q hSn (k := 2) (k' := 16) (h := h86) (by decide) rfl (by decide) rfl (k_e) ((6 * (10 * k_e + k3)) + ((mt_m t4).length)) (a)).trans ((if_neg (fun e => absurd e.1 (by decide))).trans c2)
                                                  have c_12_82 := (qI_q hSn (k := 12) (k' := 16) (h := h86) (by decide) rfl (by decide) rfl (10 * k_e + k3) ((6 * (10 * k_e + k3)) + ((mt_m t4).length)) (a)).trans ((if_neg (fun e => absurd e.1 (by decide))).trans c_12_82)
                                                  have c_13_84 := (qI_q hSn (k := 13) (k' := 16) (h := h86) (by decide) rfl (by decide) rfl ((6 * (10 * k_e + k3)) + ((mt_m t4).length)) ((6 * (10 * k_e + k3)) + ((mt_m t4).length)) (a)).trans ((if_neg (fun e => absurd e.1 (by decide))).trans c_13_84)
                                                  have c_14_85 := (qI_q hSn (k := 14) (k' := 16) (h := h86) (by decide) rfl (by decide) rfl ((6 * (10 * k_e + k3)) + ((mt_m t4).length)) ((6 * (10 * k_e + k3)) + ((mt_m t4).length)) (a)).trans ((if_neg (fun e => absurd e.1 (by decide))).trans c_14_85)
                                                  have c_15_86 := (qI_q hSn (k := 15) (k' := 16) (h := h86) (by decide) rfl (by decide) rfl ((6 * (10 * k_e + k3)) + ((mt_m t4).length)) ((6 * (10 * k_e + k3)) + ((mt_m t4).length)) (a)).trans ((if_neg (fun e => absurd e.1 (by decide))).trans c_15_86)
                                                  have hth := (xI_q hSn (k := 16) (h := h86) (by decide) rfl 0 ((6 * (10 * k_e + k3)) + ((mt_m t4).length)) (a)).trans hth
                                                  have c_16_87 : jv_I (jv_wI h86 (q 16) ((6 * (10 * k_e + k3)) + ((mt_m t4).length)) a) (q 16) ((6 * (10 * k_e + k3)) + ((mt_m t4).length)) = a := jv_I_self _ _ _ _
                                                  generalize jv_wI h86 (q 16) ((6 * (10 * k_e + k3)) + ((mt_m t4).length)) a = h87 at hF hSn2 c2 c_12_82 c_13_84 c_14_85 c_15_86 hth c_16_87 ⊢
                                                  clear hSn; have hSn := hSn2; clear hSn2
                                                  refine jv_aload_n (q := 342) G 4 dX8_member_341 rfl rfl rfl ?_
                                                  refine jv_getQ (q := 345) G dX8_member_342 fl_X8_56 rfl hSn.1 (rf_p17 hSn) rfl ?_
                                                  refine jv_iload (q := 347) G 0 dX8_member_345 rfl rfl ?_
                                                  refine jv_iload (q := 349) G 11 dX8_member_347 rfl rfl ?_
                                                  refine jv_zast (q := 350) G dX8_member_349 (rf_a17 hSn) rfl (by omega) (by decide) rfl ?_
                                                  have hF := hF.wq hS (k := 17) (j := (6 * (10 * k_e + k3)) + ((mt_m t4).length)) (by decide) rfl (Or.inr ⟨by unfold k_m; omega, rfl⟩) (jv_bI st)
                                                  have hSn2 := hF.S hS
                                                  have c2 := (qI_q hSn (k := 2) (k' := 17) (h := h87) (by decide) rfl (by decide) rfl (k_e) ((6 * (10 * k_e + k3)) + ((mt_m t4).length)) (jv_bI st)).trans ((if_neg (fun e => absurd e.1 (by decide))).trans c2)
                                                  have c_12_82 := (qI_q hSn (k := 12) (k' := 17) (h := h87) (by decide) rfl (by decide) rfl (10 * k_e + k3) ((6 * (10 * k_e + k3)) + ((mt_m t4).length)) (jv_bI st)).trans ((if_neg (fun e => absurd e.1 (by decide))).trans c_12_82)
                                                  have c_13_84 := (qI_q hSn (k := 13) (k' := 17) (h := h87) (by decide) rfl (by decide) rfl ((6 * (10 * k_e + k3)) + ((mt_m t4).length)) ((6 * (10 * k_e + k3)) + ((mt_m t4).length)) (jv_bI st)).trans ((if_neg (fun e => absurd e.1 (by decide))).trans c_13_84)
                                                  have c_14_85 := (qI_q hSn (k := 14) (k' := 17) (h := h87) (by decide) rfl (by decide) rfl ((6 * (10 * k_e + k3)) + ((mt_m t4).length)) ((6 * (10 * k_e + k3)) + ((mt_m t4).length)) (jv_bI st)).trans ((if_neg (fun e => absurd e.1 (by decide))).trans c_14_85)
                                                  have c_15_86 := (qI_q hSn (k := 15) (k' := 17) (h := h87) (by decide) rfl (by decide) rfl ((6 * (10 * k_e + k3)) + ((mt_m t4).length)) ((6 * (10 * k_e + k3)) + ((mt_m t4).length)) (jv_bI st)).trans ((if_neg (fun e => absurd e.1 (by decide))).trans c_15_86)
                                                  have c_16_87 := (qI_q hSn (k := 16) (k' := 17) (h := h87) (by decide) rfl (by decide) rfl ((6 * (10 * k_e + k3)) + ((mt_m t4).length)) ((6 * (10 * k_e + k3)) + ((mt_m t4).length)) (jv_bI st)).trans ((if_neg (fun e => absurd e.1 (by decide))).trans c_16_87)
                                                  have hth := (xI_q hSn (k := 17) (h := h87) (by decide) rfl 0 ((6 * (10 * k_e + k3)) + ((mt_m t4).length)) (jv_bI st)).trans hth
                                                  have c_17_88 : jv_I (jv_wI h87 (q 17) ((6 * (10 * k_e + k3)) + ((mt_m t4).length)) (jv_bI st)) (q 17) ((6 * (10 * k_e + k3)) + ((mt_m t4).length)) = jv_bI st := jv_I_self _ _ _ _
                                                  generalize jv_wI h87 (q 17) ((6 * (10 * k_e + k3)) + ((mt_m t4).length)) (jv_bI st) = h88 at hF hSn2 c2 c_12_82 c_13_84 c_14_85 c_15_86 c_16_87 hth c_17_88 ⊢
                                                  clear hSn; have hSn := hSn2; clear hSn2
                                                  refine jv_aload_n (q := 351) G 4 dX8_member_350 rfl rfl rfl ?_
                                                  refine jv_getQ (q := 354) G dX8_member_351 fl_X8_59 rfl hSn.1 (rf_p18 hSn) rfl ?_
                                                  refine jv_iload (q := 356) G 0 dX8_member_354 rfl rfl ?_
                                                  refine jv_iload (q := 358) G 12 dX8_member_356 rfl rfl ?_
                                                  refine jv_iast (q := 359) G dX8_member_358 (rf_a18 hSn) rfl (by omega) (by decide) rfl ?_
                                                  have hF := hF.wq hS (k := 18) (j := (6 * (10 * k_e + k3)) + ((mt_m t4).length)) (by decide) rfl (Or.inr ⟨by unfold k_m; omega, rfl⟩) (b)
                                                  have hSn2 := hF.S hS
                                                  have c2 := (qI_q hSn (k := 2) (k' := 18) (h := h88) (by decide) rfl (by decide) rfl (k_e) ((6 * (10 * k_e + k3)) + ((mt_m t4).length)) (b)).trans ((if_neg (fun e => absurd e.1 (by decide))).trans c2)
                                                  have c_12_82 := (qI_q hSn (k := 12) (k' := 18) (h := h88) (by decide) rfl (by decide) rfl (10 * k_e + k3) ((6 * (10 * k_e + k3)) + ((mt_m t4).length)) (b)).trans ((if_neg (fun e => absurd e.1 (by decide))).trans c_12_82)
                                                  have c_13_84 := (qI_q hSn (k := 13) (k' := 18) (h := h88) (by decide) rfl (by decide) rfl ((6 * (10 * k_e + k3)) + ((mt_m t4).length)) ((6 * (10 * k_e + k3)) + ((mt_m t4).length)) (b)).trans ((if_neg (fun e => absurd e.1 (by decide))).trans c_13_84)
                                                  have c_14_85 := (qI_q hSn (k := 14) (k' := 18) (h := h88) (by decide) rfl (by decide) rfl ((6 * (10 * k_e + k3)) + ((mt_m t4).length)) ((6 * (10 * k_e + k3)) + ((mt_m t4).length)) (b)).trans ((if_neg (fun e => absurd e.1 (by decide))).trans c_14_85)
                                                  have c_15_86 := (qI_q hSn (k := 15) (k' := 18) (h := h88) (by decide) rfl (by decide) rfl ((6 * (10 * k_e + k3)) + ((mt_m t4).length)) ((6 * (10 * k_e + k3)) + ((mt_m t4).length)) (b)).trans ((if_neg (fun e => absurd e.1 (by decide))).trans c_15_86)
                                                  have c_16_87 := (qI_q hSn (k := 16) (k' := 18) (h := h88) (by decide) rfl (by decide) rfl ((6 * (10 * k_e + k3)) + ((mt_m t4).length)) ((6 * (10 * k_e + k3)) + ((mt_m t4).length)) (b)).trans ((if_neg (fun e => absurd e.1 (by decide))).trans c_16_87)
                                                  have c_17_88 := (qI_q hSn (k := 17) (k' := 18) (h := h88) (by decide) rfl (by decide) rfl ((6 * (10 * k_e + k3)) + ((mt_m t4).length)) ((6 * (10 * k_e + k3)) + ((mt_m t4).length)) (b)).trans ((if_neg (fun e => absurd e.1 (by decide))).trans c_17_88)
                                                  have hth := (xI_q hSn (k := 18) (h := h88) (by decide) rfl 0 ((6 * (10 * k_e + k3)) + ((mt_m t4).length)) (b)).trans hth
                                                  have c_18_89 : jv_I (jv_wI h88 (q 18) ((6 * (10 * k_e + k3)) + ((mt_m t4).length)) b) (q 18) ((6 * (10 * k_e + k3)) + ((mt_m t4).length)) = b := jv_I_self _ _ _ _
                                                  generalize jv_wI h88 (q 18) ((6 * (10 * k_e + k3)) + ((mt_m t4).length)) b = h89 at hF hSn2 c2 c_12_82 c_13_84 c_14_85 c_15_86 c_16_87 c_17_88 hth c_18_89 ⊢
                                                  clear hSn; have hSn := hSn2; clear hSn2
                                                  refine jv_aload_n (q := 360) G 4 dX8_member_359 rfl rfl rfl ?_
                                                  refine jv_getQ (q := 363) G dX8_member_360 fl_X8_62 rfl hSn.1 (rf_p19 hSn) rfl ?_
                                                  refine jv_iload (q := 365) G 0 dX8_member_363 rfl rfl ?_
                                                  refine jv_iload_n (q := 366) G 7 dX8_member_365 rfl rfl rfl ?_
                                                  refine jv_iconst (q := 367) (v := nI 2) G dX8_member_366 (by decide) rfl ?_
                                                  refine jv_icmp_ne (q := 370) (tgt := 374) G dX8_member_367 (by decide) rfl (fun c90 => ?_) (fun c90 => ?_)
                                                  · refine jv_iconst (q := 375) (v := nI 0) G dX8_member_374 (by decide) rfl ?_
                                                    refine jv_topI (y := jv_bI false) rfl ?_
                                                    refine jv_zast (q := 376) G dX8_member_375 (rf_a19 hSn) rfl (by omega) (by decide) rfl ?_
                                                    have hF := hF.wq hS (k := 19) (j := (6 * (10 * k_e + k3)) + ((mt_m t4).length)) (by decide) rfl (Or.inr ⟨by unfold k_m; omega, rfl⟩) (jv_bI false)
                                                    have hSn2 := hF.S hS
                                                    have c2 := (qI_q hSn (k := 2) (k' := 19) (h := h89) (by decide) rfl (by decide) rfl (k_e) ((6 * (10 * k_e + k3)) + ((mt_m t4).length)) (jv_bI false)).trans ((if_neg (fun e => absurd e.1 (by decide))).trans c2)
                                                    have c_12_82 := (qI_q hSn (k := 12) (k' := 19) (h := h89) (by decide) rfl (by decide) rfl (10 * k_e + k3) ((6 * (10 * k_e + k3)) + ((mt_m t4).length)) (jv_bI false)).trans ((if_neg (fun e => absurd e.1 (by decide))).trans c_12_82)
                                                    have c_13_84 := (qI_q hSn (k := 13) (k' := 19) (h := h89) (by decide) rfl (by decide) rfl ((6 * (10 * k_e + k3)) + ((mt_m t4).length)) ((6 * (10 * k_e + k3)) + ((mt_m t4).length)) (jv_bI false)).trans ((if_neg (fun e => absurd e.1 (by decide))).trans c_13_84)
                                                    have c_14_85 := (qI_q hSn (k := 14) (k' := 19) (h := h89) (by decide) rfl (by decide) rfl ((6 * (10 * k_e + k3)) + ((mt_m t4).length)) ((6 * (10 * k_e + k3)) + ((mt_m t4).length)) (jv_bI false)).trans ((if_neg (fun e => absurd e.1 (by decide))).trans c_14_85)
                                                    have c_15_86 := (qI_q hSn (k := 15) (k' := 19) (h := h89) (by decide) rfl (by decide) rfl ((6 * (10 * k_e + k3)) + ((mt_m t4).length)) ((6 * (10 * k_e + k3)) + ((mt_m t4).length)) (jv_bI false)).trans ((if_neg (fun e => absurd e.1 (by decide))).trans c_15_86)
                                                    have c_16_87 := (qI_q hSn (k := 16) (k' := 19) (h := h89) (by decide) rfl (by decide) rfl ((6 * (10 * k_e + k3)) + ((mt_m t4).length)) ((6 * (10 * k_e + k3)) + ((mt_m t4).length)) (jv_bI false)).trans ((if_neg (fun e => absurd e.1 (by decide))).trans c_16_87)
                                                    have c_17_88 := (qI_q hSn (k := 17) (k' := 19) (h := h89) (by decide) rfl (by decide) rfl ((6 * (10 * k_e + k3)) + ((mt_m t4).length)) ((6 * (10 * k_e + k3)) + ((mt_m t4).length)) (jv_bI false)).trans ((if_neg (fun e => absurd e.1 (by decide))).trans c_17_88)
                                                    have c_18_89 := (qI_q hSn (k := 18) (k' := 19) (h := h89) (by decide) rfl (by decide) rfl ((6 * (10 * k_e + k3)) + ((mt_m t4).length)) ((6 * (10 * k_e + k3)) + ((mt_m t4).length)) (jv_bI false)).trans ((if_neg (fun e => absurd e.1 (by decide))).trans c_18_89)
                                                    have hth := (xI_q hSn (k := 19) (h := h89) (by decide) rfl 0 ((6 * (10 * k_e + k3)) + ((mt_m t4).length)) (jv_bI false)).trans hth
                                                    have c_19_91 : jv_I (jv_wI h89 (q 19) ((6 * (10 * k_e + k3)) + ((mt_m t4).length)) (jv_bI false)) (q 19) ((6 * (10 * k_e + k3)) + ((mt_m t4).length)) = jv_bI false := jv_I_self _ _ _ _
                                                    generalize jv_wI h89 (q 19) ((6 * (10 * k_e + k3)) + ((mt_m t4).length)) (jv_bI false) = h91 at hF hSn2 c2 c_12_82 c_13_84 c_14_85 c_15_86 c_16_87 c_17_88 c_18_89 hth c_19_91 ⊢
                                                    clear hSn; have hSn := hSn2; clear hSn2
                                                    refine jv_aload_n (q := 377) G 4 dX8_member_376 rfl rfl rfl ?_
                                                    refine jv_getQ (q := 380) G dX8_member_377 fl_X8_41 rfl hSn.1 (rf_p12 hSn) rfl ?_
                                                    refine jv_iload (q := 382) G 3 dX8_member_380 rfl rfl ?_
                                                    refine jv_iald (q := 383) G dX8_member_382 (rf_a12 hSn) rfl (by omega) (by decide) c_12_82 rfl ?_
                                                    refine jv_iret G hr dX8_member_383 (Nat.le_of_ble_eq_true rfl) (Nat.le_of_ble_eq_true rfl) ?_
                                                    have hg : m_mbG t4 w o s a st b = true := by
                                                      unfold m_mbG; simp only [*, nI_21, nI_12, nI_102, eq_self,  if_true, if_false, Bool.false_eq_true, reduceIte, Bool.and_true, Bool.and_false, Bool.true_and, Bool.false_and, Bool.not_true, Bool.not_false, Bool.true_or, Bool.or_true, Bool.false_or, Option.isNone_some, Option.isNone_none, decide_true, decide_false]
                                                    have hM2 := rf_M.new (w1 := false) (w2 := false) hg (by simp only [*, nI_21, nI_12, nI_102, eq_self,  if_true, if_false, Bool.false_eq_true, reduceIte, Bool.and_true, Bool.and_false, Bool.true_and, Bool.false_and, Bool.not_true, Bool.not_false, Bool.true_or, Bool.or_true, Bool.false_or, Option.isNone_some, Option.isNone_none, decide_true, decide_false]) (by simp only [*, nI_21, nI_12, nI_102, eq_self,  if_true, if_false, Bool.false_eq_true, reduceIte, Bool.and_true, Bool.and_false, Bool.true_and, Bool.false_and, Bool.not_true, Bool.not_false, Bool.true_or, Bool.or_true, Bool.false_or, Option.isNone_some, Option.isNone_none, decide_true, decide_false]) c_13_84 c_14_85 c_15_86 c_16_87 c_17_88 c_18_89 c_19_91
                                                    have hT2 := rf_T.cM (Tt4) Ot4 (by have := Ot4.2.2.2.2.2.1; omega) hF c_12_82 hM2
                                                    refine pO.mk (th := 0) (r := nI ((mt_m t4).length + 1)) (M' := m_put M k_e (false, (ma_t M k_e).set k3 (m_tM t4 (mt_m t4 ++ [m_mbN w o s a st b])))) ?_ rfl hth (rf_R.ed hR hke hse (hF.mono (fun k j w => o_T_E (i := k3) (by omega) (by unfold k_m at w; unfold o_T k_t k_m; have := Ot4.2.2.2.2.2.1; omega)) (fun _ z => z)) c2 (hE.upd lt4 (hF.mono (W' := o_T (10 * k_e + k3)) (fun k j w => by unfold k_m at w; unfold o_T k_t k_m; have := Ot4.2.2.2.2.2.1; omega) (fun _ z => z)) hT2) (fun z => by cases z)) ((hrs.FW hS0).fr.tr hF.fr)
                                                    unfold m_mb
                                                    rw [m_opT_yes zke hse (by assumption) ht4, if_pos hg, if_neg (by omega)]
                                                  · exact absurd c90 c69
                                                · omega
                                              · omega
                                            · refine jv_iconst (q := 255) (v := nI 4) G dX8_member_254 (by decide) rfl ?_
                                              refine jv_goto (q := 259) G dX8_member_255 (by decide) ?_
                                              refine jv_putI (q := 262) G dX8_member_259 fl_X8_122 rfl hS.1 rfl ?_
                                              have hr1 : rs x q h1 (jv_wI h1 x 0 (nI 4)) := rs.rf.wI (nI 4) (Or.inl ⟨rfl, Or.inl rfl⟩)
                                              have hth : jv_I (jv_wI h1 x 0 (nI 4)) x 0 = (nI 4) := jv_I_self _ _ _ _
                                              have hR := hr1.R hR
                                              have hrs := hrs.tr hr1
                                              generalize jv_wI h1 x 0 (nI 4) = h92 at hth hR hrs ⊢
                                              obtain ⟨hS, ⟨hn8, hn⟩, ⟨hm12, hm⟩, hD, hV, hCs⟩ := id hR
                                              have hsc : sc x q h92 h92 := sc.rf
                                              have hE := (hD k_e (by omega)).2
                                              have Tt4 := (hE.2.2 k3 t4 ht4).1
                                              refine jv_aload_n (q := 263) G 3 dX8_member_262 rfl rfl rfl ?_
                                              refine jv_getI (q := 266) G dX8_member_263 fl_X8_122 rfl hS.1 hth rfl ?_
                                              refine jv_if_leN (q := 269) (tgt := 271) G dX8_member_266 (by decide) rfl (by omega) (fun c93 => ?_) (fun c93 => ?_)
                                              · omega
                                              · refine jv_iconst (q := 270) (v := nI 0) G dX8_member_269 (by decide) rfl ?_
                                                refine jv_iret G hr dX8_member_270 (Nat.le_of_ble_eq_true rfl) (Nat.le_of_ble_eq_true rfl) ?_
                                                refine pO.no (M := M) hS0 ?_ rfl hth hR hrs
                                                unfold m_mb; rw [m_opT_yes zke hse (by assumption) ht4]; unfold m_mbG
                                                simp only [*, nI_21, nI_12, nI_102, eq_self,  if_true, if_false, Bool.false_eq_true, reduceIte, Bool.and_true, Bool.and_false, Bool.true_and, Bool.false_and, Bool.not_true, Bool.not_false, Bool.true_or, Bool.or_true, Bool.false_or, Option.isNone_some, Option.isNone_none, decide_true, decide_false]
                                          · omega
                                      · refine jv_topI (y := nI (6 * (10 * k_e + k3) + j74)) (by rw [hj76]; rfl) ?_
                                        obtain ⟨m75, hm75, wm75, nm75, sm75, lm75⟩ := m_own_some hj76
                                        have Mm75 := rt_m Tt4 hm75
                                        have Om75 := Ot4.2.2.2.2.2.2 m75 (List.mem_of_getElem? hm75)
                                        have Lm75 := Ot4.2.2.2.2.2.1
                                        have Bm75n := Om75.1; have Bm75s := Om75.2.1; have Bm75a := Om75.2.2.1
                                        refine jv_iconst (q := 222) (v := (-1)) G dX8_member_221 (by decide) rfl ?_
                                        refine jv_icmp_ne (q := 225) (tgt := 229) G dX8_member_222 (by decide) rfl (fun c94 => ?_) (fun c94 => ?_)
                                        · refine jv_iconst (q := 230) (v := nI 0) G dX8_member_229 (by decide) rfl ?_
                                          refine jv_istore (q := 232) (lo' := [(11, .int (nI 0)), (10, .int (nI 0)), (9, .int (nI (10 * k_e + k3))), (0, .ref x), (1, .int (nI k_e)), (2, .int n), (3, .int w), (4, .int o), (5, .int s), (6, .int a), (7, .int (jv_bI st)), (8, .int b)]) G dX8_member_230 (by decide) rfl rfl ?_
                                          refine jv_aload_n (q := 233) G 3 dX8_member_232 rfl rfl rfl ?_
                                          refine jv_iload (q := 235) G 0 dX8_member_233 rfl rfl ?_
                                          refine jv_if_neN (q := 238) (tgt := 242) G dX8_member_235 (by decide) rfl (by omega) (fun c95 => ?_) (fun c95 => ?_)
                                          · omega
                                          · refine jv_iconst (q := 239) (v := nI 3) G dX8_member_238 (by decide) rfl ?_
                                            refine jv_goto (q := 259) G dX8_member_239 (by decide) ?_
                                            refine jv_putI (q := 262) G dX8_member_259 fl_X8_122 rfl hS.1 rfl ?_
                                            have hr1 : rs x q h1 (jv_wI h1 x 0 (nI 3)) := rs.rf.wI (nI 3) (Or.inl ⟨rfl, Or.inl rfl⟩)
                                            have hth : jv_I (jv_wI h1 x 0 (nI 3)) x 0 = (nI 3) := jv_I_self _ _ _ _
                                            have hR := hr1.R hR
                                            have hrs := hrs.tr hr1
                                            generalize jv_wI h1 x 0 (nI 3) = h96 at hth hR hrs ⊢
                                            obtain ⟨hS, ⟨hn8, hn⟩, ⟨hm12, hm⟩, hD, hV, hCs⟩ := id hR
                                            have hsc : sc x q h96 h96 := sc.rf
                                            have hE := (hD k_e (by omega)).2
                                            have Tt4 := (hE.2.2 k3 t4 ht4).1
                                            refine jv_aload_n (q := 263) G 3 dX8_member_262 rfl rfl rfl ?_
                                            refine jv_getI (q := 266) G dX8_member_263 fl_X8_122 rfl hS.1 hth rfl ?_
                                            refine jv_if_leN (q := 269) (tgt := 271) G dX8_member_266 (by decide) rfl (by omega) (fun c97 => ?_) (fun c97 => ?_)
                                            · omega
                                            · refine jv_iconst (q := 270) (v := nI 0) G dX8_member_269 (by decide) rfl ?_
                                              refine jv_iret G hr dX8_member_270 (Nat.le_of_ble_eq_true rfl) (Nat.le_of_ble_eq_true rfl) ?_
                                              refine pO.no (M := M) hS0 ?_ rfl hth hR hrs
                                              unfold m_mb; rw [m_opT_yes zke hse (by assumption) ht4]; unfold m_mbG
                                              simp only [*, nI_21, nI_12, nI_102, eq_self,  if_true, if_false, Bool.false_eq_true, reduceIte, Bool.and_true, Bool.and_false, Bool.true_and, Bool.false_and, Bool.not_true, Bool.not_false, Bool.true_or, Bool.or_true, Bool.false_or, Option.isNone_some, Option.isNone_none, decide_true, decide_false]
                                        · exact absurd c94 (jv_nI_m1 (by omega))
                                    · omega
                                · refine jv_iload (q := 175) G 9 dX8_member_173 rfl rfl ?_
                                  refine jv_iconst (q := 176) (v := nI 3) G dX8_member_175 (by decide) rfl ?_
                                  refine jv_icmp_ne (q := 179) (tgt := 193) G dX8_member_176 (by decide) rfl (fun c98 => ?_) (fun c98 => ?_)
                                  · refine jv_iconst (q := 194) (v := nI 0) G dX8_member_193 (by decide) rfl ?_
                                    refine jv_istore (q := 196) (lo' := [(11, .int (nI 0)), (10, .int (nI 0)), (9, .int (nI (10 * k_e + k3))), (0, .ref x), (1, .int (nI k_e)), (2, .int n), (3, .int w), (4, .int o), (5, .int s), (6, .int a), (7, .int (jv_bI st)), (8, .int b)]) G dX8_member_194 (by decide) rfl rfl ?_
                                    refine jv_iload (q := 198) G 0 dX8_member_196 rfl rfl ?_
                                    refine jv_if_eqN (q := 201) (tgt := 232) G dX8_member_198 (by decide) rfl (by omega) (fun c99 => ?_) (fun c99 => ?_)
                                    · refine jv_aload_n (q := 233) G 3 dX8_member_232 rfl rfl rfl ?_
                                      refine jv_iload (q := 235) G 0 dX8_member_233 rfl rfl ?_
                                      refine jv_if_neN (q := 238) (tgt := 242) G dX8_member_235 (by decide) rfl (by omega) (fun c100 => ?_) (fun c100 => ?_)
                                      · omega
                                      · refine jv_iconst (q := 239) (v := nI 3) G dX8_member_238 (by decide) rfl ?_
                                        refine jv_goto (q := 259) G dX8_member_239 (by decide) ?_
                                        refine jv_putI (q := 262) G dX8_member_259 fl_X8_122 rfl hS.1 rfl ?_
                                        have hr1 : rs x q h1 (jv_wI h1 x 0 (nI 3)) := rs.rf.wI (nI 3) (Or.inl ⟨rfl, Or.inl rfl⟩)
                                        have hth : jv_I (jv_wI h1 x 0 (nI 3)) x 0 = (nI 3) := jv_I_self _ _ _ _
                                        have hR := hr1.R hR
                                        have hrs := hrs.tr hr1
                                        generalize jv_wI h1 x 0 (nI 3) = h101 at hth hR hrs ⊢
                                        obtain ⟨hS, ⟨hn8, hn⟩, ⟨hm12, hm⟩, hD, hV, hCs⟩ := id hR
                                        have hsc : sc x q h101 h101 := sc.rf
                                        have hE := (hD k_e (by omega)).2
                                        have Tt4 := (hE.2.2 k3 t4 ht4).1
                                        refine jv_aload_n (q := 263) G 3 dX8_member_262 rfl rfl rfl ?_
                                        refine jv_getI (q := 266) G dX8_member_263 fl_X8_122 rfl hS.1 hth rfl ?_
                                        refine jv_if_leN (q := 269) (tgt := 271) G dX8_member_266 (by decide) rfl (by omega) (fun c102 => ?_) (fun c102 => ?_)
                                        · omega
                                        · refine jv_iconst (q := 270) (v := nI 0) G dX8_member_269 (by decide) rfl ?_
                                          refine jv_iret G hr dX8_member_270 (Nat.le_of_ble_eq_true rfl) (Nat.le_of_ble_eq_true rfl) ?_
                                          refine pO.no (M := M) hS0 ?_ rfl hth hR hrs
                                          unfold m_mb; rw [m_opT_yes zke hse (by assumption) ht4]; unfold m_mbG
                                          simp only [*, nI_21, nI_12, nI_102, eq_self,  if_true, if_false, Bool.false_eq_true, reduceIte, Bool.and_true, Bool.and_false, Bool.true_and, Bool.false_and, Bool.not_true, Bool.not_false, Bool.true_or, Bool.or_true, Bool.false_or, Option.isNone_some, Option.isNone_none, decide_true, decide_false]
                                    · omega
                                  · subst c98
                                    refine jv_iload (q := 181) G 1 dX8_member_179 rfl rfl ?_
                                    refine jv_if_neN (q := 184) (tgt := 189) G dX8_member_181 (by decide) rfl (by omega) (fun c103 => ?_) (fun c103 => ?_)
                                    · omega
                                    · refine jv_iload (q := 186) G 10 dX8_member_184 rfl rfl ?_
                                      refine jv_if_eqB (q := 189) (tgt := 193) G dX8_member_186 (by decide) rfl (fun c104 => ?_) (fun c104 => ?_)
                                      · subst c104
                                        refine jv_iconst (q := 194) (v := nI 0) G dX8_member_193 (by decide) rfl ?_
                                        refine jv_istore (q := 196) (lo' := [(11, .int (nI 0)), (10, .int (nI 0)), (9, .int (nI (10 * k_e + k3))), (0, .ref x), (1, .int (nI k_e)), (2, .int n), (3, .int w), (4, .int o), (5, .int s), (6, .int (nI 3)), (7, .int (jv_bI false)), (8, .int b)]) G dX8_member_194 (by decide) rfl rfl ?_
                                        refine jv_iload (q := 198) G 0 dX8_member_196 rfl rfl ?_
                                        refine jv_if_eqN (q := 201) (tgt := 232) G dX8_member_198 (by decide) rfl (by omega) (fun c105 => ?_) (fun c105 => ?_)
                                        · refine jv_aload_n (q := 233) G 3 dX8_member_232 rfl rfl rfl ?_
                                          refine jv_iload (q := 235) G 0 dX8_member_233 rfl rfl ?_
                                          refine jv_if_neN (q := 238) (tgt := 242) G dX8_member_235 (by decide) rfl (by omega) (fun c106 => ?_) (fun c106 => ?_)
                                          · omega
                                          · refine jv_iconst (q := 239) (v := nI 3) G dX8_member_238 (by decide) rfl ?_
                                            refine jv_goto (q := 259) G dX8_member_239 (by decide) ?_
                                            refine jv_putI (q := 262) G dX8_member_259 fl_X8_122 rfl hS.1 rfl ?_
                                            have hr1 : rs x q h1 (jv_wI h1 x 0 (nI 3)) := rs.rf.wI (nI 3) (Or.inl ⟨rfl, Or.inl rfl⟩)
                                            have hth : jv_I (jv_wI h1 x 0 (nI 3)) x 0 = (nI 3) := jv_I_self _ _ _ _
                                            have hR := hr1.R hR
                                            have hrs := hrs.tr hr1
                                            generalize jv_wI h1 x 0 (nI 3) = h107 at hth hR hrs ⊢
                                            obtain ⟨hS, ⟨hn8, hn⟩, ⟨hm12, hm⟩, hD, hV, hCs⟩ := id hR
                                            have hsc : sc x q h107 h107 := sc.rf
                                            have hE := (hD k_e (by omega)).2
                                            have Tt4 := (hE.2.2 k3 t4 ht4).1
                                            refine jv_aload_n (q := 263) G 3 dX8_member_262 rfl rfl rfl ?_
                                            refine jv_getI (q := 266) G dX8_member_263 fl_X8_122 rfl hS.1 hth rfl ?_
                                            refine jv_if_leN (q := 269) (tgt := 271) G dX8_member_266 (by decide) rfl (by omega) (fun c108 => ?_) (fun c108 => ?_)
                                            · omega
                                            · refine jv_iconst (q := 270) (v := nI 0) G dX8_member_269 (by decide) rfl ?_
                                              refine jv_iret G hr dX8_member_270 (Nat.le_of_ble_eq_true rfl) (Nat.le_of_ble_eq_true rfl) ?_
                                              refine pO.no (M := M) hS0 ?_ rfl hth hR hrs
                                              unfold m_mb; rw [m_opT_yes zke hse (by assumption) ht4]; unfold m_mbG
                                              simp only [*, nI_21, nI_12, nI_102, eq_self,  if_true, if_false, Bool.false_eq_true, reduceIte, Bool.and_true, Bool.and_false, Bool.true_and, Bool.false_and, Bool.not_true, Bool.not_false, Bool.true_or, Bool.or_true, Bool.false_or, Option.isNone_some, Option.isNone_none, decide_true, decide_false]
                                        · omega
                                      · subst c104
                                        refine jv_iconst (q := 190) (v := nI 1) G dX8_member_189 (by decide) rfl ?_
                                        refine jv_goto (q := 194) G dX8_member_190 (by decide) ?_
                                        refine jv_istore (q := 196) (lo' := [(11, .int (nI 1)), (10, .int (nI 0)), (9, .int (nI (10 * k_e + k3))), (0, .ref x), (1, .int (nI k_e)), (2, .int n), (3, .int w), (4, .int o), (5, .int s), (6, .int (nI 3)), (7, .int (jv_bI true)), (8, .int b)]) G dX8_member_194 (by decide) rfl rfl ?_
                                        refine jv_iload (q := 198) G 0 dX8_member_196 rfl rfl ?_
                                        refine jv_if_eqN (q := 201) (tgt := 232) G dX8_member_198 (by decide) rfl (by omega) (fun c109 => ?_) (fun c109 => ?_)
                                        · omega
                                        · refine jv_aload_n (q := 202) G 3 dX8_member_201 rfl rfl rfl ?_
                                          refine jv_iload (q := 204) G 2 dX8_member_202 rfl rfl ?_
                                          refine jv_iload (q := 206) G 1 dX8_member_204 rfl rfl ?_
                                          refine jv_if_eqN (q := 209) (tgt := 213) G dX8_member_206 (by decide) rfl (by omega) (fun c110 => ?_) (fun c110 => ?_)
                                          · refine jv_iconst (q := 214) (v := nI 0) G dX8_member_213 (by decide) rfl ?_
                                            refine jv_iload (q := 216) G 7 dX8_member_214 rfl rfl ?_
                                            refine jv_iload (q := 218) G 8 dX8_member_216 rfl rfl ?_
                                            refine jv_callV_I (q := 221) (h1 := h1) (As := [.int (nI (10 * k_e + k3)), .int (nI 0), .int o, .int s]) (rest := []) (ce' := 0) (sl' := 0) (r := jv_oN ((m_own t4 (nI 0) o s).map (fun j => 6 * (10 * k_e + k3) + j))) G Z ml_X8_155 (r_own hlt (hsc.S hS) (by omega) (hsc.T hS Tt4) Ot4) hS.1 dX8_member_218 rfl (by decide) (by decide) (by decide) (by decide) (Nat.le_of_ble_eq_true rfl) rfl rfl rfl rfl ?_
                                            rcases Option.eq_none_or_eq_some (m_own t4 (nI 0) o s) with hj113 | ⟨j111, hj113⟩
                                            · refine jv_topI (y := (-1)) (by rw [hj113]; rfl) ?_
                                              refine jv_iconst (q := 222) (v := (-1)) G dX8_member_221 (by decide) rfl ?_
                                              refine jv_icmp_ne (q := 225) (tgt := 229) G dX8_member_222 (by decide) rfl (fun c114 => ?_) (fun c114 => ?_)
                                              · exact absurd rfl c114
                                              · refine jv_iconst (q := 226) (v := nI 1) G dX8_member_225 (by decide) rfl ?_
                                                refine jv_goto (q := 230) G dX8_member_226 (by decide) ?_
                                                refine jv_istore (q := 232) (lo' := [(11, .int (nI 1)), (10, .int (nI 0)), (9, .int (nI (10 * k_e + k3))), (0, .ref x), (1, .int (nI k_e)), (2, .int n), (3, .int w), (4, .int o), (5, .int s), (6, .int (nI 3)), (7, .int (jv_bI true)), (8, .int b)]) G dX8_member_230 (by decide) rfl rfl ?_
                                                refine jv_aload_n (q := 233) G 3 dX8_member_232 rfl rfl rfl ?_
                                                refine jv_iload (q := 235) G 0 dX8_member_233 rfl rfl ?_
                                                refine jv_if_neN (q := 238) (tgt := 242) G dX8_member_235 (by decide) rfl (by omega) (fun c115 => ?_) (fun c115 => ?_)
                                                · refine jv_aload_n (q := 243) G 3 dX8_member_242 rfl rfl rfl ?_
                                                  refine jv_getQ (q := 246) G dX8_member_243 fl_X8_41 rfl hS.1 (rf_p12 hS) rfl ?_
                                                  refine jv_iload (q := 248) G 2 dX8_member_246 rfl rfl ?_
                                                  refine jv_iald (q := 249) G dX8_member_248 (rf_a12 hS) rfl (by omega) (by decide) (rt_12 (hsc.T hS Tt4)) rfl ?_
                                                  refine jv_bipush (q := 251) (v := nI 6) G dX8_member_249 (by decide) rfl ?_
                                                  refine jv_icmp_neN (q := 254) (tgt := 258) G dX8_member_251 (by decide) rfl (by omega) (by omega) (fun c116 => ?_) (fun c116 => ?_)
                                                  · refine jv_iconst (q := 259) (v := nI 0) G dX8_member_258 (by decide) rfl ?_
                                                    refine jv_putI (q := 262) G dX8_member_259 fl_X8_122 rfl hS.1 rfl ?_
                                                    have hr1 : rs x q h1 (jv_wI h1 x 0 (nI 0)) := rs.rf.wI (nI 0) (Or.inl ⟨rfl, Or.inl rfl⟩)
                                                    have hth : jv_I (jv_wI h1 x 0 (nI 0)) x 0 = (nI 0) := jv_I_self _ _ _ _
                                                    have hR := hr1.R hR
                                                    have hrs := hrs.tr hr1
                                                    generalize jv_wI h1 x 0 (nI 0) = h117 at hth hR hrs ⊢
                                                    obtain ⟨hS, ⟨hn8, hn⟩, ⟨hm12, hm⟩, hD, hV, hCs⟩ := id hR
                                                    have hsc : sc x q h117 h117 := sc.rf
                                                    have hE := (hD k_e (by omega)).2
                                                    have Tt4 := (hE.2.2 k3 t4 ht4).1
                                                    refine jv_aload_n (q := 263) G 3 dX8_member_262 rfl rfl rfl ?_
                                                    refine jv_getI (q := 266) G dX8_member_263 fl_X8_122 rfl hS.1 hth rfl ?_
                                                    refine jv_if_leN (q := 269) (tgt := 271) G dX8_member_266 (by decide) rfl (by omega) (fun c118 => ?_) (fun c118 => ?_)
                                                    · have c2 : jv_I h117 (q 2) k_e = jv_bI false := (hD k_e (by omega)).1.trans (by rw [hse])
                                                      have c12 := rt_12 Tt4
                                                      have hl6 := Ot4.2.2.2.2.2.1
                                                      have hF : FW (fun k j => (k = 12 ∧ j = 10 * k_e + k3) ∨ (k_m k ∧ j = 6 * (10 * k_e + k3) + (mt_m t4).length)) xcr x q h117 h117 := FW.rf
                                                      have hSn := hS
                                                      refine jv_bipush (q := 273) (v := nI 6) G dX8_member_271 (by decide) rfl ?_
                                                      refine jv_iload (q := 275) G 2 dX8_member_273 rfl rfl ?_
                                                      refine jv_imulN (q := 276) G dX8_member_275 rfl ?_
                                                      refine jv_aload_n (q := 277) G 3 dX8_member_276 rfl rfl rfl ?_
                                                      refine jv_getQ (q := 280) G dX8_member_277 fl_X8_41 rfl hS.1 (rf_p12 hS) rfl ?_
                                                      refine jv_iload (q := 282) G 2 dX8_member_280 rfl rfl ?_
                                                      refine jv_iald (q := 283) G dX8_member_282 (rf_a12 hS) rfl (by omega) (by decide) (rt_12 (hsc.T hS Tt4)) rfl ?_
                                                      refine jv_iaddN (q := 284) G dX8_member_283 rfl ?_
                                                      refine jv_istore (q := 286) (lo' := [(12, .int (nI ((6 * (10 * k_e + k3)) + ((mt_m t4).length)))), (11, .int (nI 1)), (10, .int (nI 0)), (9, .int (nI (10 * k_e + k3))), (0, .ref x), (1, .int (nI k_e)), (2, .int n), (3, .int w), (4, .int o), (5, .int s), (6, .int (nI 3)), (7, .int (jv_bI true)), (8, .int b)]) G dX8_member_284 (by decide) rfl rfl ?_
                                                      refine jv_aload_n (q := 287) G 4 dX8_member_286 rfl rfl rfl ?_
                                                      refine jv_getQ (q := 290) G dX8_member_287 fl_X8_41 rfl hS.1 (rf_p12 hS) rfl ?_
                                                      refine jv_iload (q := 292) G 3 dX8_member_290 rfl rfl ?_
                                                      refine jv_dup2 (q := 293) G dX8_member_292 rfl rfl rfl ?_
                                                      refine jv_iald (q := 294) G dX8_member_293 (rf_a12 hS) rfl (by omega) (by decide) (rt_12 (hsc.T hS Tt4)) rfl ?_
                                                      refine jv_iconst (q := 295) (v := nI 1) G dX8_member_294 (by decide) rfl ?_
                                                      refine jv_iaddN (q := 296) G dX8_member_295 rfl ?_
                                                      refine jv_iast (q := 297) G dX8_member_296 (rf_a12 hS) rfl (by omega) (by decide) rfl ?_
                                                      have hF := hF.wq hS (k := 12) (j := 10 * k_e + k3) (by decide) rfl (Or.inl ⟨rfl, rfl⟩) (nI (((mt_m t4).length) + 1))
                                                      have hSn2 := hF.S hS
                                                      have c2 := (qI_q hSn (k := 2) (k' := 12) (h := h117) (by decide) rfl (by decide) rfl (k_e) (10 * k_e + k3) (nI (((mt_m t4).length) + 1))).trans ((if_neg (fun e => absurd e.1 (by decide))).trans c2)
                                                      have hth := (xI_q hSn (k := 12) (h := h117) (by decide) rfl 0 (10 * k_e + k3) (nI (((mt_m t4).length) + 1))).trans hth
                                                      have c_12_119 : jv_I (jv_wI h117 (q 12) (10 * k_e + k3) (nI (((mt_m t4).length) + 1))) (q 12) (10 * k_e + k3) = nI (((mt_m t4).length) + 1) := jv_I_self _ _ _ _
                                                      generalize jv_wI h117 (q 12) (10 * k_e + k3) (nI (((mt_m t4).length) + 1)) = h119 at hF hSn2 c2 hth c_12_119 ⊢
                                                      clear hSn; have hSn := hSn2; clear hSn2
                                                      refine jv_aload_n (q := 298) G 4 dX8_member_297 rfl rfl rfl ?_
                                                      refine jv_getQ (q := 301) G dX8_member_298 fl_X8_44 rfl hSn.1 (rf_p13 hSn) rfl ?_
                                                      refine jv_iload (q := 303) G 0 dX8_member_301 rfl rfl ?_
                                                      refine jv_iload (q := 305) G 2 dX8_member_303 rfl rfl ?_
                                                      refine jv_if_eqN (q := 308) (tgt := 312) G dX8_member_305 (by decide) rfl (by omega) (fun c120 => ?_) (fun c120 => ?_)
                                                      · refine jv_iconst (q := 313) (v := nI 0) G dX8_member_312 (by decide) rfl ?_
                                                        refine jv_iast (q := 314) G dX8_member_313 (rf_a13 hSn) rfl (by omega) (by decide) rfl ?_
                                                        have hF := hF.wq hS (k := 13) (j := (6 * (10 * k_e + k3)) + ((mt_m t4).length)) (by decide) rfl (Or.inr ⟨by unfold k_m; omega, rfl⟩) (nI 0)
                                                        have hSn2 := hF.S hS
                                                        have c2 := (qI_q hSn (k := 2) (k' := 13) (h := h119) (by decide) rfl (by decide) rfl (k_e) ((6 * (10 * k_e + k3)) + ((mt_m t4).length)) (nI 0)).trans ((if_neg (fun e => absurd e.1 (by decide))).trans c2)
                                                        have c_12_119 := (qI_q hSn (k := 12) (k' := 13) (h := h119) (by decide) rfl (by decide) rfl (10 * k_e + k3) ((6 * (10 * k_e + k3)) + ((mt_m t4).length)) (nI 0)).trans ((if_neg (fun e => absurd e.1 (by decide))).trans c_12_119)
                                                        have hth := (xI_q hSn (k := 13) (h := h119) (by decide) rfl 0 ((6 * (10 * k_e + k3)) + ((mt_m t4).length)) (nI 0)).trans hth
                                                        have c_13_121 : jv_I (jv_wI h119 (q 13) ((6 * (10 * k_e + k3)) + ((mt_m t4).length)) (nI 0)) (q 13) ((6 * (10 * k_e + k3)) + ((mt_m t4).length)) = nI 0 := jv_I_self _ _ _ _
                                                        generalize jv_wI h119 (q 13) ((6 * (10 * k_e + k3)) + ((mt_m t4).length)) (nI 0) = h121 at hF hSn2 c2 c_12_119 hth c_13_121 ⊢
                                                        clear hSn; have hSn := hSn2; clear hSn2
                                                        refine jv_aload_n (q := 315) G 4 dX8_member_314 rfl rfl rfl ?_
                                                        refine jv_getQ (q := 318) G dX8_member_315 fl_X8_47 rfl hSn.1 (rf_p14 hSn) rfl ?_
                                                        refine jv_iload (q := 320) G 0 dX8_member_318 rfl rfl ?_
                                                        refine jv_iload (q := 322) G 8 dX8_member_320 rfl rfl ?_
                                                        refine jv_iast (q := 323) G dX8_member_322 (rf_a14 hSn) rfl (by omega) (by decide) rfl ?_
                                                        have hF := hF.wq hS (k := 14) (j := (6 * (10 * k_e + k3)) + ((mt_m t4).length)) (by decide) rfl (Or.inr ⟨by unfold k_m; omega, rfl⟩) (o)
                                                        have hSn2 := hF.S hS
                                                        have c2 := (qI_q hSn (k := 2) (k' := 14) (h := h121) (by decide) rfl (by decide) rfl (k_e) ((6 * (10 * k_e + k3)) + ((mt_m t4).length)) (o)).trans ((if_neg (fun e => absurd e.1 (by decide))).trans c2)
                                                        have c_12_119 := (qI_q hSn (k := 12) (k' := 14) (h := h121) (by decide) rfl (by decide) rfl (10 * k_e + k3) ((6 * (10 * k_e + k3)) + ((mt_m t4).length)) (o)).trans ((if_neg (fun e => absurd e.1 (by decide))).trans c_12_119)
                                                        have c_13_121 := (qI_q hSn (k := 13) (k' := 14) (h := h121) (by decide) rfl (by decide) rfl ((6 * (10 * k_e + k3)) + ((mt_m t4).length)) ((6 * (10 * k_e + k3)) + ((mt_m t4).length)) (o)).trans ((if_neg (fun e => absurd e.1 (by decide))).trans c_13_121)
                                                        have hth := (xI_q hSn (k := 14) (h := h121) (by decide) rfl 0 ((6 * (10 * k_e + k3)) + ((mt_m t4).length)) (o)).trans hth
                                                        have c_14_122 : jv_I (jv_wI h121 (q 14) ((6 * (10 * k_e + k3)) + ((mt_m t4).length)) o) (q 14) ((6 * (10 * k_e + k3)) + ((mt_m t4).length)) = o := jv_I_self _ _ _ _
                                                        generalize jv_wI h121 (q 14) ((6 * (10 * k_e + k3)) + ((mt_m t4).length)) o = h122 at hF hSn2 c2 c_12_119 c_13_121 hth c_14_122 ⊢
                                                        clear hSn; have hSn := hSn2; clear hSn2
                                                        refine jv_aload_n (q := 324) G 4 dX8_member_323 rfl rfl rfl ?_
                                                        refine jv_getQ (q := 327) G dX8_member_324 fl_X8_50 rfl hSn.1 (rf_p15 hSn) rfl ?_
                                                        refine jv_iload (q := 329) G 0 dX8_member_327 rfl rfl ?_
                                                        refine jv_iload (q := 331) G 9 dX8_member_329 rfl rfl ?_
                                                        refine jv_iast (q := 332) G dX8_member_331 (rf_a15 hSn) rfl (by omega) (by decide) rfl ?_
                                                        have hF := hF.wq hS (k := 15) (j := (6 * (10 * k_e + k3)) + ((mt_m t4).length)) (by decide) rfl (Or.inr ⟨by unfold k_m; omega, rfl⟩) (s)
                                                        have hSn2 := hF.S hS
                                                        have c2 := (qI_q hSn (k := 2) (k' := 15) (h := h122) (by decide) rfl (by decide) rfl (k_e) ((6 * (10 * k_e + k3)) + ((mt_m t4).length)) (s)).trans ((if_neg (fun e => absurd e.1 (by decide))).trans c2)
                                                        have c_12_119 := (qI_q hSn (k := 12) (k' := 15) (h := h122) (by decide) rfl (by decide) rfl (10 * k_e + k3) ((6 * (10 * k_e + k3)) + ((mt_m t4).length)) (s)).trans ((if_neg (fun e => absurd e.1 (by decide))).trans c_12_119)
                                                        have c_13_121 := (qI_q hSn (k := 13) (k' := 15) (h := h122) (by decide) rfl (by decide) rfl ((6 * (10 * k_e + k3)) + ((mt_m t4).length)) ((6 * (10 * k_e + k3)) + ((mt_m t4).length)) (s)).trans ((if_neg (fun e => absurd e.1 (by decide))).trans c_13_121)
                                                        have c_14_122 := (qI_q hSn (k := 14) (k' := 15) (h := h122) (by decide) rfl (by decide) rfl ((6 * (10 * k_e + k3)) + ((mt_m t4).length)) ((6 * (10 * k_e + k3)) + ((mt_m t4).length)) (s)).trans ((if_neg (fun e => absurd e.1 (by decide))).trans c_14_122)
                                                        have hth := (xI_q hSn (k := 15) (h := h122) (by decide) rfl 0 ((6 * (10 * k_e + k3)) + ((mt_m t4).length)) (s)).trans hth
                                                        have c_15_123 : jv_I (jv_wI h122 (q 15) ((6 * (10 * k_e + k3)) + ((mt_m t4).length)) s) (q 15) ((6 * (10 * k_e + k3)) + ((mt_m t4).length)) = s := jv_I_self _ _ _ _
                                                        generalize jv_wI h122 (q 15) ((6 * (10 * k_e + k3)) + ((mt_m t4).length)) s = h123 at hF hSn2 c2 c_12_119 c_13_121 c_14_122 hth c_15_123 ⊢
                                                        clear hSn; have hSn := hSn2; clear hSn2
                                                        refine jv_aload_n (q := 333) G 4 dX8_member_332 rfl rfl rfl ?_
                                                        refine jv_getQ (q := 336) G dX8_member_333 fl_X8_53 rfl hSn.1 (rf_p16 hSn) rfl ?_
                                                        refine jv_iload (q := 338) G 0 dX8_member_336 rfl rfl ?_
                                                        refine jv_iload (q := 340) G 10 dX8_member_338 rfl rfl ?_
                                                        refine jv_iast (q := 341) G dX8_member_340 (rf_a16 hSn) rfl (by omega) (by decide) rfl ?_
                                                        have hF := hF.wq hS (k := 16) (j := (6 * (10 * k_e + k3)) + ((mt_m t4).length)) (by decide) rfl (Or.inr ⟨by unfold k_m; omega, rfl⟩) (nI 3)
                                                        have hSn2 := hF.S hS
                                                        have c2 := (qI_q hSn (k := 2) (k' := 16) (h := h123) (by decide) rfl (by decide) rfl (k_e) ((6 * (10 * k_e + k3)) + ((mt_m t4).length)) (nI 3)).trans ((if_neg (fun e => absurd e.1 (by decide))).trans c2)
                                                        have c_12_119 := (qI_q hSn (k := 12) (k' := 16) (h := h123) (by decide) rfl (by decide) rfl (10 * k_e + k3) ((6 * (10 * k_e + k3)) + ((mt_m t4).length)) (nI 3)).trans ((if_neg (fun e => absurd e.1 (by decide))).trans c_12_119)
                                                        have c_13_121 := (qI_q hSn (k := 13) (k' := 16) (h := h123) (by decide) rfl (by decide) rfl ((6 * (10 * k_e + k3)) + ((mt_m t4).length)) ((6 * (10 * k_e + k3)) + ((mt_m t4).length)) (nI 3)).trans ((if_neg (fun e => absurd e.1 (by decide))).trans c_13_121)
                                                        have c_14_122 := (qI_q hSn (k := 14) (k' := 16) (h := h123) (by decide) rfl (by decide) rfl ((6 * (10 * k_e + k3)) + ((mt_m t4).length)) ((6 * (10 * k_e + k3)) + ((mt_m t4).length)) (nI 3)).trans ((if_neg (fun e => absurd e.1 (by decide))).trans c_14_122)
                                                        have c_15_123 := (qI_q hSn (k := 15) (k' := 16) (h := h123) (by decide) rfl (by decide) rfl ((6 * (10 * k_e + k3)) + ((mt_m t4).length)) ((6 * (10 * k_e + k3)) + ((mt_m t4).length)) (nI 3)).trans ((if_neg (fun e => absurd e.1 (by decide))).trans c_15_123)
                                                        have hth := (xI_q hSn (k := 16) (h := h123) (by decide) rfl 0 ((6 * (10 * k_e + k3)) + ((mt_m t4).length)) (nI 3)).trans hth
                                                        have c_16_124 : jv_I (jv_wI h123 (q 16) ((6 * (10 * k_e + k3)) + ((mt_m t4).length)) (nI 3)) (q 16) ((6 * (10 * k_e + k3)) + ((mt_m t4).length)) = nI 3 := jv_I_self _ _ _ _
                                                        generalize jv_wI h123 (q 16) ((6 * (10 * k_e + k3)) + ((mt_m t4).length)) (nI 3) = h124 at hF hSn2 c2 c_12_119 c_13_121 c_14_122 c_15_123 hth c_16_124 ⊢
                                                        clear hSn; have hSn := hSn2; clear hSn2
                                                        refine jv_aload_n (q := 342) G 4 dX8_member_341 rfl rfl rfl ?_
                                                        refine jv_getQ (q := 345) G dX8_member_342 fl_X8_56 rfl hSn.1 (rf_p17 hSn) rfl ?_
                                                        refine jv_iload (q := 347) G 0 dX8_member_345 rfl rfl ?_
                                                        refine jv_iload (q := 349) G 11 dX8_member_347 rfl rfl ?_
                                                        refine jv_zast (q := 350) G dX8_member_349 (rf_a17 hSn) rfl (by omega) (by decide) rfl ?_
                                                        have hF := hF.wq hS (k := 17) (j := (6 * (10 * k_e + k3)) + ((mt_m t4).length)) (by decide) rfl (Or.inr ⟨by unfold k_m; omega, rfl⟩) (jv_bI true)
                                                        have hSn2 := hF.S hS
                                                        have c2 := (qI_q hSn (k := 2) (k' := 17) (h := h124) (by decide) rfl (by decide) rfl (k_e) ((6 * (10 * k_e + k3)) + ((mt_m t4).length)) (jv_bI true)).trans ((if_neg (fun e => absurd e.1 (by decide))).trans c2)
                                                        have c_12_119 := (qI_q hSn (k := 12) (k' := 17) (h := h124) (by decide) rfl (by decide) rfl (10 * k_e + k3) ((6 * (10 * k_e + k3)) + ((mt_m t4).length)) (jv_bI true)).trans ((if_neg (fun e => absurd e.1 (by decide))).trans c_12_119)
                                                        have c_13_121 := (qI_q hSn (k := 13) (k' := 17) (h := h124) (by decide) rfl (by decide) rfl ((6 * (10 * k_e + k3)) + ((mt_m t4).length)) ((6 * (10 * k_e + k3)) + ((mt_m t4).length)) (jv_bI true)).trans ((if_neg (fun e => absurd e.1 (by decide))).trans c_13_121)
                                                        have c_14_122 := (qI_q hSn (k := 14) (k' := 17) (h := h124) (by decide) rfl (by decide) rfl ((6 * (10 * k_e + k3)) + ((mt_m t4).length)) ((6 * (10 * k_e + k3)) + ((mt_m t4).length)) (jv_bI true)).trans ((if_neg (fun e => absurd e.1 (by decide))).trans c_14_122)
                                                        have c_15_123 := (qI_q hSn (k := 15) (k' := 17) (h := h124) (by decide) rfl (by decide) rfl ((6 * (10 * k_e + k3)) + ((mt_m t4).length)) ((6 * (10 * k_e + k3)) + ((mt_m t4).length)) (jv_bI true)).trans ((if_neg (fun e => absurd e.1 (by decide))).trans c_15_123)
                                                        have c_16_124 := (qI_q hSn (k := 16) (k' := 17) (h := h124) (by decide) rfl (by decide) rfl ((6 * (10 * k_e + k3)) + ((mt_m t4).length)) ((6 * (10 * k_e + k3)) + ((mt_m t4).length)) (jv_bI true)).trans ((if_neg (fun e => absurd e.1 (by decide))).trans c_16_124)
                                                        have hth := (xI_q hSn (k := 17) (h := h124) (by decide) rfl 0 ((6 * (10 * k_e + k3)) + ((mt_m t4).length)) (jv_bI true)).trans hth
                                                        have c_17_125 : jv_I (jv_wI h124 (q 17) ((6 * (10 * k_e + k3)) + ((mt_m t4).length)) (jv_bI true)) (q 17) ((6 * (10 * k_e + k3)) + ((mt_m t4).length)) = jv_bI true := jv_I_self _ _ _ _
                                                        generalize jv_wI h124 (q 17) ((6 * (10 * k_e + k3)) + ((mt_m t4).length)) (jv_bI true) = h125 at hF hSn2 c2 c_12_119 c_13_121 c_14_122 c_15_123 c_16_124 hth c_17_125 ⊢
                                                        clear hSn; have hSn := hSn2; clear hSn2
                                                        refine jv_aload_n (q := 351) G 4 dX8_member_350 rfl rfl rfl ?_
                                                        refine jv_getQ (q := 354) G dX8_member_351 fl_X8_59 rfl hSn.1 (rf_p18 hSn) rfl ?_
                                                        refine jv_iload (q := 356) G 0 dX8_member_354 rfl rfl ?_
                                                        refine jv_iload (q := 358) G 12 dX8_member_356 rfl rfl ?_
                                                        refine jv_iast (q := 359) G dX8_member_358 (rf_a18 hSn) rfl (by omega) (by decide) rfl ?_
                                                        have hF := hF.wq hS (k := 18) (j := (6 * (10 * k_e + k3)) + ((mt_m t4).length)) (by decide) rfl (Or.inr ⟨by unfold k_m; omega, rfl⟩) (b)
                                                        have hSn2 := hF.S hS
                                                        have c2 := (qI_q hSn (k := 2) (k' := 18) (h := h125) (by decide) rfl (by decide) rfl (k_e) ((6 * (10 * k_e + k3)) + ((mt_m t4).length)) (b)).trans ((if_neg (fun e => absurd e.1 (by decide))).trans c2)
                                                        have c_12_119 := (qI_q hSn (k := 12) (k' := 18) (h := h125) (by decide) rfl (by decide) rfl (10 * k_e + k3) ((6 * (10 * k_e + k3)) + ((mt_m t4).length)) (b)).trans ((if_neg (fun e => absurd e.1 (by decide))).trans c_12_119)
                                                        have c_13_121 := (qI_q hSn (k := 13) (k' := 18) (h := h125) (by decide) rfl (by decide) rfl ((6 * (10 * k_e + k3)) + ((mt_m t4).length)) ((6 * (10 * k_e + k3)) + ((mt_m t4).length)) (b)).trans ((if_neg (fun e => absurd e.1 (by decide))).trans c_13_121)
                                                        have c_14_122 := (qI_q hSn (k := 14) (k' := 18) (h := h125) (by decide) rfl (by decide) rfl ((6 * (10 * k_e + k3)) + ((mt_m t4).length)) ((6 * (10 * k_e + k3)) + ((mt_m t4).length)) (b)).trans ((if_neg (fun e => absurd e.1 (by decide))).trans c_14_122)
                                                        have c_15_123 := (qI_q hSn (k := 15) (k' := 18) (h := h125) (by decide) rfl (by decide) rfl ((6 * (10 * k_e + k3)) + ((mt_m t4).length)) ((6 * (10 * k_e + k3)) + ((mt_m t4).length)) (b)).trans ((if_neg (fun e => absurd e.1 (by decide))).trans c_15_123)
                                                        have c_16_124 := (qI_q hSn (k := 16) (k' := 18) (h := h125) (by decide) rfl (by decide) rfl ((6 * (10 * k_e + k3)) + ((mt_m t4).length)) ((6 * (10 * k_e + k3)) + ((mt_m t4).length)) (b)).trans ((if_neg (fun e => absurd e.1 (by decide))).trans c_16_124)
                                                        have c_17_125 := (qI_q hSn (k := 17) (k' := 18) (h := h125) (by decide) rfl (by decide) rfl ((6 * (10 * k_e + k3)) + ((mt_m t4).length)) ((6 * (10 * k_e + k3)) + ((mt_m t4).length)) (b)).trans ((if_neg (fun e => absurd e.1 (by decide))).trans c_17_125)
                                                        have hth := (xI_q hSn (k := 18) (h := h125) (by decide) rfl 0 ((6 * (10 * k_e + k3)) + ((mt_m t4).length)) (b)).trans hth
                                                        have c_18_126 : jv_I (jv_wI h125 (q 18) ((6 * (10 * k_e + k3)) + ((mt_m t4).length)) b) (q 18) ((6 * (10 * k_e + k3)) + ((mt_m t4).length)) = b := jv_I_self _ _ _ _
                                                        generalize jv_wI h125 (q 18) ((6 * (10 * k_e + k3)) + ((mt_m t4).length)) b = h126 at hF hSn2 c2 c_12_119 c_13_121 c_14_122 c_15_123 c_16_124 c_17_125 hth c_18_126 ⊢
                                                        clear hSn; have hSn := hSn2; clear hSn2
                                                        refine jv_aload_n (q := 360) G 4 dX8_member_359 rfl rfl rfl ?_
                                                        refine jv_getQ (q := 363) G dX8_member_360 fl_X8_62 rfl hSn.1 (rf_p19 hSn) rfl ?_
                                                        refine jv_iload (q := 365) G 0 dX8_member_363 rfl rfl ?_
                                                        refine jv_iload_n (q := 366) G 7 dX8_member_365 rfl rfl rfl ?_
                                                        refine jv_iconst (q := 367) (v := nI 2) G dX8_member_366 (by decide) rfl ?_
                                                        refine jv_icmp_ne (q := 370) (tgt := 374) G dX8_member_367 (by decide) rfl (fun c127 => ?_) (fun c127 => ?_)
                                                        · refine jv_iconst (q := 375) (v := nI 0) G dX8_member_374 (by decide) rfl ?_
                                                          refine jv_topI (y := jv_bI false) rfl ?_
                                                          refine jv_zast (q := 376) G dX8_member_375 (rf_a19 hSn) rfl (by omega) (by decide) rfl ?_
                                                          have hF := hF.wq hS (k := 19) (j := (6 * (10 * k_e + k3)) + ((mt_m t4).length)) (by decide) rfl (Or.inr ⟨by unfold k_m; omega, rfl⟩) (jv_bI false)
                                                          have hSn2 := hF.S hS
                                                          have c2 := (qI_q hSn (k := 2) (k' := 19) (h := h126) (by decide) rfl (by decide) rfl (k_e) ((6 * (10 * k_e + k3)) + ((mt_m t4).length)) (jv_bI false)).trans ((if_neg (fun e => absurd e.1 (by decide))).trans c2)
                                                          have c_12_119 := (qI_q hSn (k := 12) (k' := 19) (h := h126) (by decide) rfl (by decide) rfl (10 * k_e + k3) ((6 * (10 * k_e + k3)) + ((mt_m t4).length)) (jv_bI false)).trans ((if_neg (fun e => absurd e.1 (by decide))).trans c_12_119)
                                                          have c_13_121 := (qI_q hSn (k := 13) (k' := 19) (h := h126) (by decide) rfl (by decide) rfl ((6 * (10 * k_e + k3)) + ((mt_m t4).length)) ((6 * (10 * k_e + k3)) + ((mt_m t4).length)) (jv_bI false)).trans ((if_neg (fun e => absurd e.1 (by decide))).trans c_13_121)
                                                          have c_14_122 := (qI_q hSn (k := 14) (k' := 19) (h := h126) (by decide) rfl (by decide) rfl ((6 * (10 * k_e + k3)) + ((mt_m t4).length)) ((6 * (10 * k_e + k3)) + ((mt_m t4).length)) (jv_bI false)).trans ((if_neg (fun e => absurd e.1 (by decide))).trans c_14_122)
                                                          have c_15_123 := (qI_q hSn (k := 15) (k' := 19) (h := h126) (by decide) rfl (by decide) rfl ((6 * (10 * k_e + k3)) + ((mt_m t4).length)) ((6 * (10 * k_e + k3)) + ((mt_m t4).length)) (jv_bI false)).trans ((if_neg (fun e => absurd e.1 (by decide))).trans c_15_123)
                                                          have c_16_124 := (qI_q hSn (k := 16) (k' := 19) (h := h126) (by decide) rfl (by decide) rfl ((6 * (10 * k_e + k3)) + ((mt_m t4).length)) ((6 * (10 * k_e + k3)) + ((mt_m t4).length)) (jv_bI false)).trans ((if_neg (fun e => absurd e.1 (by decide))).trans c_16_124)
                                                          have c_17_125 := (qI_q hSn (k := 17) (k' := 19) (h := h126) (by decide) rfl (by decide) rfl ((6 * (10 * k_e + k3)) + ((mt_m t4).length)) ((6 * (10 * k_e + k3)) + ((mt_m t4).length)) (jv_bI false)).trans ((if_neg (fun e => absurd e.1 (by decide))).trans c_17_125)
                                                          have c_18_126 := (qI_q hSn (k := 18) (k' := 19) (h := h126) (by decide) rfl (by decide) rfl ((6 * (10 * k_e + k3)) + ((mt_m t4).length)) ((6 * (10 * k_e + k3)) + ((mt_m t4).length)) (jv_bI false)).trans ((if_neg (fun e => absurd e.1 (by decide))).trans c_18_126)
                                                          have hth := (xI_q hSn (k := 19) (h := h126) (by decide) rfl 0 ((6 * (10 * k_e + k3)) + ((mt_m t4).length)) (jv_bI false)).trans hth
                                                          have c_19_128 : jv_I (jv_wI h126 (q 19) ((6 * (10 * k_e + k3)) + ((mt_m t4).length)) (jv_bI false)) (q 19) ((6 * (10 * k_e + k3)) + ((mt_m t4).length)) = jv_bI false := jv_I_self _ _ _ _
                                                          generalize jv_wI h126 (q 19) ((6 * (10 * k_e + k3)) + ((mt_m t4).length)) (jv_bI false) = h128 at hF hSn2 c2 c_12_119 c_13_121 c_14_122 c_15_123 c_16_124 c_17_125 c_18_126 hth c_19_128 ⊢
                                                          clear hSn; have hSn := hSn2; clear hSn2
                                                          refine jv_aload_n (q := 377) G 4 dX8_member_376 rfl rfl rfl ?_
                                                          refine jv_getQ (q := 380) G dX8_member_377 fl_X8_41 rfl hSn.1 (rf_p12 hSn) rfl ?_
                                                          refine jv_iload (q := 382) G 3 dX8_member_380 rfl rfl ?_
                                                          refine jv_iald (q := 383) G dX8_member_382 (rf_a12 hSn) rfl (by omega) (by decide) c_12_119 rfl ?_
                                                          refine jv_iret G hr dX8_member_383 (Nat.le_of_ble_eq_true rfl) (Nat.le_of_ble_eq_true rfl) ?_
                                                          have hg : m_mbG t4 w o s (nI 3) true b = true := by
                                                            unfold m_mbG; simp only [*, nI_21, nI_12, nI_102, eq_self,  if_true, if_false, Bool.false_eq_true, reduceIte, Bool.and_true, Bool.and_false, Bool.true_and, Bool.false_and, Bool.not_true, Bool.not_false, Bool.true_or, Bool.or_true, Bool.false_or, Option.isNone_some, Option.isNone_none, decide_true, decide_false]
                                                          have hM2 := rf_M.new (w1 := false) (w2 := false) hg (by simp only [*, nI_21, nI_12, nI_102, eq_self,  if_true, if_false, Bool.false_eq_true, reduceIte, Bool.and_true, Bool.and_false, Bool.true_and, Bool.false_and, Bool.not_true, Bool.not_false, Bool.true_or, Bool.or_true, Bool.false_or, Option.isNone_some, Option.isNone_none, decide_true, decide_false]) (by simp only [*, nI_21, nI_12, nI_102, eq_self,  if_true, if_false, Bool.false_eq_true, reduceIte, Bool.and_true, Bool.and_false, Bool.true_and, Bool.false_and, Bool.not_true, Bool.not_false, Bool.true_or, Bool.or_true, Bool.false_or, Option.isNone_some, Option.isNone_none, decide_true, decide_false]) c_13_121 c_14_122 c_15_123 c_16_124 c_17_125 c_18_126 c_19_128
                                                          have hT2 := rf_T.cM (Tt4) Ot4 (by have := Ot4.2.2.2.2.2.1; omega) hF c_12_119 hM2
                                                          refine pO.mk (th := 0) (r := nI ((mt_m t4).length + 1)) (M' := m_put M k_e (false, (ma_t M k_e).set k3 (m_tM t4 (mt_m t4 ++ [m_mbN w o s (nI 3) true b])))) ?_ rfl hth (rf_R.ed hR hke hse (hF.mono (fun k j w => o_T_E (i := k3) (by omega) (by unfold k_m at w; unfold o_T k_t k_m; have := Ot4.2.2.2.2.2.1; omega)) (fun _ z => z)) c2 (hE.upd lt4 (hF.mono (W' := o_T (10 * k_e + k3)) (fun k j w => by unfold k_m at w; unfold o_T k_t k_m; have := Ot4.2.2.2.2.2.1; omega) (fun _ z => z)) hT2) (fun z => by cases z)) ((hrs.FW hS0).fr.tr hF.fr)
                                                          unfold m_mb
                                                          rw [m_opT_yes zke hse (by assumption) ht4, if_pos hg, if_neg (by omega)]
                                                        · exact absurd c127 c69
                                                      · omega
                                                    · omega
                                                  · refine jv_iconst (q := 255) (v := nI 4) G dX8_member_254 (by decide) rfl ?_
                                                    refine jv_goto (q := 259) G dX8_member_255 (by decide) ?_
                                                    refine jv_putI (q := 262) G dX8_member_259 fl_X8_122 rfl hS.1 rfl ?_
                                                    have hr1 : rs x q h1 (jv_wI h1 x 0 (nI 4)) := rs.rf.wI (nI 4) (Or.inl ⟨rfl, Or.inl rfl⟩)
                                                    have hth : jv_I (jv_wI h1 x 0 (nI 4)) x 0 = (nI 4) := jv_I_self _ _ _ _
                                                    have hR := hr1.R hR
                                                    have hrs := hrs.tr hr1
                                                    generalize jv_wI h1 x 0 (nI 4) = h129 at hth hR hrs ⊢
                                                    obtain ⟨hS, ⟨hn8, hn⟩, ⟨hm12, hm⟩, hD, hV, hCs⟩ := id hR
                                                    have hsc : sc x q h129 h129 := sc.rf
                                                    have hE := (hD k_e (by omega)).2
                                                    have Tt4 := (hE.2.2 k3 t4 ht4).1
                                                    refine jv_aload_n (q := 263) G 3 dX8_member_262 rfl rfl rfl ?_
                                                    refine jv_getI (q := 266) G dX8_member_263 fl_X8_122 rfl hS.1 hth rfl ?_
                                                    refine jv_if_leN (q := 269) (tgt := 271) G dX8_member_266 (by decide) rfl (by omega) (fun c130 => ?_) (fun c130 => ?_)
                                                    · omega
                                                    · refine jv_iconst (q := 270) (v := nI 0) G dX8_member_269 (by decide) rfl ?_
                                                      refine jv_iret G hr dX8_member_270 (Nat.le_of_ble_eq_true rfl) (Nat.le_of_ble_eq_true rfl) ?_
                                                      refine pO.no (M := M) hS0 ?_ rfl hth hR hrs
                                                      unfold m_mb; rw [m_opT_yes zke hse (by assumption) ht4]; unfold m_mbG
                                                      simp only [*, nI_21, nI_12, nI_102, eq_self,  if_true, if_false, Bool.false_eq_true, reduceIte, Bool.and_true, Bool.and_false, Bool.true_and, Bool.false_and, Bool.not_true, Bool.not_false, Bool.true_or, Bool.or_true, Bool.false_or, Option.isNone_some, Option.isNone_none, decide_true, decide_false]
                                                · omega
                                            · refine jv_topI (y := nI (6 * (10 * k_e + k3) + j111)) (by rw [hj113]; rfl) ?_
                                              obtain ⟨m112, hm112, wm112, nm112, sm112, lm112⟩ := m_own_some hj113
                                              have Mm112 := rt_m Tt4 hm112
                                              have Om112 := Ot4.2.2.2.2.2.2 m112 (List.mem_of_getElem? hm112)
                                              have Lm112 := Ot4.2.2.2.2.2.1
                                              have Bm112n := Om112.1; have Bm112s := Om112.2.1; have Bm112a := Om112.2.2.1
                                              refine jv_iconst (q := 222) (v := (-1)) G dX8_member_221 (by decide) rfl ?_
                                              refine jv_icmp_ne (q := 225) (tgt := 229) G dX8_member_222 (by decide) rfl (fun c131 => ?_) (fun c131 => ?_)
                                              · refine jv_iconst (q := 230) (v := nI 0) G dX8_member_229 (by decide) rfl ?_
                                                refine jv_istore (q := 232) (lo' := [(11, .int (nI 0)), (10, .int (nI 0)), (9, .int (nI (10 * k_e + k3))), (0, .ref x), (1, .int (nI k_e)), (2, .int n), (3, .int w), (4, .int o), (5, .int s), (6, .int (nI 3)), (7, .int (jv_bI true)), (8, .int b)]) G dX8_member_230 (by decide) rfl rfl ?_
                                                refine jv_aload_n (q := 233) G 3 dX8_member_232 rfl rfl rfl ?_
                                                refine jv_iload (q := 235) G 0 dX8_member_233 rfl rfl ?_
                                                refine jv_if_neN (q := 238) (tgt := 242) G dX8_member_235 (by decide) rfl (by omega) (fun c132 => ?_) (fun c132 => ?_)
                                                · omega
                                                · refine jv_iconst (q := 239) (v := nI 3) G dX8_member_238 (by decide) rfl ?_
                                                  refine jv_goto (q := 259) G dX8_member_239 (by decide) ?_
                                                  refine jv_putI (q := 262) G dX8_member_259 fl_X8_122 rfl hS.1 rfl ?_
                                                  have hr1 : rs x q h1 (jv_wI h1 x 0 (nI 3)) := rs.rf.wI (nI 3) (Or.inl ⟨rfl, Or.inl rfl⟩)
                                                  have hth : jv_I (jv_wI h1 x 0 (nI 3)) x 0 = (nI 3) := jv_I_self _ _ _ _
                                                  have hR := hr1.R hR
                                                  have hrs := hrs.tr hr1
                                                  generalize jv_wI h1 x 0 (nI 3) = h133 at hth hR hrs ⊢
                                                  obtain ⟨hS, ⟨hn8, hn⟩, ⟨hm12, hm⟩, hD, hV, hCs⟩ := id hR
                                                  have hsc : sc x q h133 h133 := sc.rf
                                                  have hE := (hD k_e (by omega)).2
                                                  have Tt4 := (hE.2.2 k3 t4 ht4).1
                                                  refine jv_aload_n (q := 263) G 3 dX8_member_262 rfl rfl rfl ?_
                                                  refine jv_getI (q := 266) G dX8_member_263 fl_X8_122 rfl hS.1 hth rfl ?_
                                                  refine jv_if_leN (q := 269) (tgt := 271) G dX8_member_266 (by decide) rfl (by omega) (fun c134 => ?_) (fun c134 => ?_)
                                                  · omega
                                                  · refine jv_iconst (q := 270) (v := nI 0) G dX8_member_269 (by decide) rfl ?_
                                                    refine jv_iret G hr dX8_member_270 (Nat.le_of_ble_eq_true rfl) (Nat.le_of_ble_eq_true rfl) ?_
                                                    refine pO.no (M := M) hS0 ?_ rfl hth hR hrs
                                                    unfold m_mb; rw [m_opT_yes zke hse (by assumption) ht4]; unfold m_mbG
                                                    simp only [*, nI_21, nI_12, nI_102, eq_self,  if_true, if_false, Bool.false_eq_true, reduceIte, Bool.and_true, Bool.and_false, Bool.true_and, Bool.false_and, Bool.not_true, Bool.not_false, Bool.true_or, Bool.or_true, Bool.false_or, Option.isNone_some, Option.isNone_none, decide_true, decide_false]
                                              · exact absurd c131 (jv_nI_m1 (by omega))
                                          · omega
                            · subst c69
                              refine jv_iload (q := 156) G 10 dX8_member_154 rfl rfl ?_
                              refine jv_istore (q := 158) (lo' := [(11, .int (jv_bI st)), (10, .int (nI 0)), (9, .int (nI (10 * k_e + k3))), (0, .ref x), (1, .int (nI k_e)), (2, .int n), (3, .int (nI 2)), (4, .int o), (5, .int s), (6, .int a), (7, .int (jv_bI st)), (8, .int b)]) G dX8_member_156 (by decide) rfl rfl ?_
                              refine jv_iload (q := 160) G 0 dX8_member_158 rfl rfl ?_
                              refine jv_if_eqB (q := 163) (tgt := 196) G dX8_member_160 (by decide) rfl (fun c135 => ?_) (fun c135 => ?_)
                              · subst c135
                                refine jv_iload (q := 198) G 0 dX8_member_196 rfl rfl ?_
                                refine jv_if_eqB (q := 201) (tgt := 232) G dX8_member_198 (by decide) rfl (fun c136 => ?_) (fun c136 => ?_)
                                · refine jv_aload_n (q := 233) G 3 dX8_member_232 rfl rfl rfl ?_
                                  refine jv_iload (q := 235) G 0 dX8_member_233 rfl rfl ?_
                                  refine jv_if_neB (q := 238) (tgt := 242) G dX8_member_235 (by decide) rfl (fun c137 => ?_) (fun c137 => ?_)
                                  · cases c137
                                  · refine jv_iconst (q := 239) (v := nI 3) G dX8_member_238 (by decide) rfl ?_
                                    refine jv_goto (q := 259) G dX8_member_239 (by decide) ?_
                                    refine jv_putI (q := 262) G dX8_member_259 fl_X8_122 rfl hS.1 rfl ?_
                                    have hr1 : rs x q h1 (jv_wI h1 x 0 (nI 3)) := rs.rf.wI (nI 3) (Or.inl ⟨rfl, Or.inl rfl⟩)
                                    have hth : jv_I (jv_wI h1 x 0 (nI 3)) x 0 = (nI 3) := jv_I_self _ _ _ _
                                    have hR := hr1.R hR
                                    have hrs := hrs.tr hr1
                                    generalize jv_wI h1 x 0 (nI 3) = h138 at hth hR hrs ⊢
                                    obtain ⟨hS, ⟨hn8, hn⟩, ⟨hm12, hm⟩, hD, hV, hCs⟩ := id hR
                                    have hsc : sc x q h138 h138 := sc.rf
                                    have hE := (hD k_e (by omega)).2
                                    have Tt4 := (hE.2.2 k3 t4 ht4).1
                                    refine jv_aload_n (q := 263) G 3 dX8_member_262 rfl rfl rfl ?_
                                    refine jv_getI (q := 266) G dX8_member_263 fl_X8_122 rfl hS.1 hth rfl ?_
                                    refine jv_if_leN (q := 269) (tgt := 271) G dX8_member_266 (by decide) rfl (by omega) (fun c139 => ?_) (fun c139 => ?_)
                                    · omega
                                    · refine jv_iconst (q := 270) (v := nI 0) G dX8_member_269 (by decide) rfl ?_
                                      refine jv_iret G hr dX8_member_270 (Nat.le_of_ble_eq_true rfl) (Nat.le_of_ble_eq_true rfl) ?_
                                      refine pO.no (M := M) hS0 ?_ rfl hth hR hrs
                                      unfold m_mb; rw [m_opT_yes zke hse (by assumption) ht4]; unfold m_mbG
                                      simp only [*, nI_21, nI_12, nI_102, eq_self,  if_true, if_false, Bool.false_eq_true, reduceIte, Bool.and_true, Bool.and_false, Bool.true_and, Bool.false_and, Bool.not_true, Bool.not_false, Bool.true_or, Bool.or_true, Bool.false_or, Option.isNone_some, Option.isNone_none, decide_true, decide_false]
                                · cases c136
                              · subst c135
                                refine jv_aload_n (q := 164) G 3 dX8_member_163 rfl rfl rfl ?_
                                refine jv_getQ (q := 167) G dX8_member_164 fl_X8_20 rfl hS.1 (rf_p5 hS) rfl ?_
                                refine jv_iload (q := 169) G 2 dX8_member_167 rfl rfl ?_
                                refine jv_zald (q := 170) G dX8_member_169 (rf_a5 hS) rfl (by omega) (by decide) (rt_5 (hsc.T hS Tt4)) rfl ?_
                                refine jv_if_eqB (q := 173) (tgt := 196) G dX8_member_170 (by decide) rfl (fun c140 => ?_) (fun c140 => ?_)
                                · refine jv_iload (q := 198) G 0 dX8_member_196 rfl rfl ?_
                                  refine jv_if_eqB (q := 201) (tgt := 232) G dX8_member_198 (by decide) rfl (fun c141 => ?_) (fun c141 => ?_)
                                  · cases c141
                                  · refine jv_aload_n (q := 202) G 3 dX8_member_201 rfl rfl rfl ?_
                                    refine jv_iload (q := 204) G 2 dX8_member_202 rfl rfl ?_
                                    refine jv_iload (q := 206) G 1 dX8_member_204 rfl rfl ?_
                                    refine jv_if_eqN (q := 209) (tgt := 213) G dX8_member_206 (by decide) rfl (by omega) (fun c142 => ?_) (fun c142 => ?_)
                                    · refine jv_iconst (q := 214) (v := nI 0) G dX8_member_213 (by decide) rfl ?_
                                      refine jv_iload (q := 216) G 7 dX8_member_214 rfl rfl ?_
                                      refine jv_iload (q := 218) G 8 dX8_member_216 rfl rfl ?_
                                      refine jv_callV_I (q := 221) (h1 := h1) (As := [.int (nI (10 * k_e + k3)), .int (nI 0), .int o, .int s]) (rest := []) (ce' := 0) (sl' := 0) (r := jv_oN ((m_own t4 (nI 0) o s).map (fun j => 6 * (10 * k_e + k3) + j))) G Z ml_X8_155 (r_own hlt (hsc.S hS) (by omega) (hsc.T hS Tt4) Ot4) hS.1 dX8_member_218 rfl (by decide) (by decide) (by decide) (by decide) (Nat.le_of_ble_eq_true rfl) rfl rfl rfl rfl ?_
                                      rcases Option.eq_none_or_eq_some (m_own t4 (nI 0) o s) with hj145 | ⟨j143, hj145⟩
                                      · refine jv_topI (y := (-1)) (by rw [hj145]; rfl) ?_
                                        refine jv_iconst (q := 222) (v := (-1)) G dX8_member_221 (by decide) rfl ?_
                                        refine jv_icmp_ne (q := 225) (tgt := 229) G dX8_member_222 (by decide) rfl (fun c146 => ?_) (fun c146 => ?_)
                                        · exact absurd rfl c146
                                        · refine jv_iconst (q := 226) (v := nI 1) G dX8_member_225 (by decide) rfl ?_
                                          refine jv_goto (q := 230) G dX8_member_226 (by decide) ?_
                                          refine jv_istore (q := 232) (lo' := [(11, .int (nI 1)), (10, .int (nI 0)), (9, .int (nI (10 * k_e + k3))), (0, .ref x), (1, .int (nI k_e)), (2, .int n), (3, .int (nI 2)), (4, .int o), (5, .int s), (6, .int a), (7, .int (jv_bI true)), (8, .int b)]) G dX8_member_230 (by decide) rfl rfl ?_
                                          refine jv_aload_n (q := 233) G 3 dX8_member_232 rfl rfl rfl ?_
                                          refine jv_iload (q := 235) G 0 dX8_member_233 rfl rfl ?_
                                          refine jv_if_neN (q := 238) (tgt := 242) G dX8_member_235 (by decide) rfl (by omega) (fun c147 => ?_) (fun c147 => ?_)
                                          · refine jv_aload_n (q := 243) G 3 dX8_member_242 rfl rfl rfl ?_
                                            refine jv_getQ (q := 246) G dX8_member_243 fl_X8_41 rfl hS.1 (rf_p12 hS) rfl ?_
                                            refine jv_iload (q := 248) G 2 dX8_member_246 rfl rfl ?_
                                            refine jv_iald (q := 249) G dX8_member_248 (rf_a12 hS) rfl (by omega) (by decide) (rt_12 (hsc.T hS Tt4)) rfl ?_
                                            refine jv_bipush (q := 251) (v := nI 6) G dX8_member_249 (by decide) rfl ?_
                                            refine jv_icmp_neN (q := 254) (tgt := 258) G dX8_member_251 (by decide) rfl (by omega) (by omega) (fun c148 => ?_) (fun c148 => ?_)
                                            · refine jv_iconst (q := 259) (v := nI 0) G dX8_member_258 (by decide) rfl ?_
                                              refine jv_putI (q := 262) G dX8_member_259 fl_X8_122 rfl hS.1 rfl ?_
                                              have hr1 : rs x q h1 (jv_wI h1 x 0 (nI 0)) := rs.rf.wI (nI 0) (Or.inl ⟨rfl, Or.inl rfl⟩)
                                              have hth : jv_I (jv_wI h1 x 0 (nI 0)) x 0 = (nI 0) := jv_I_self _ _ _ _
                                              have hR := hr1.R hR
                                              have hrs := hrs.tr hr1
                                              generalize jv_wI h1 x 0 (nI 0) = h149 at hth hR hrs ⊢
                                              obtain ⟨hS, ⟨hn8, hn⟩, ⟨hm12, hm⟩, hD, hV, hCs⟩ := id hR
                                              have hsc : sc x q h149 h149 := sc.rf
                                              have hE := (hD k_e (by omega)).2
                                              have Tt4 := (hE.2.2 k3 t4 ht4).1
                                              refine jv_aload_n (q := 263) G 3 dX8_member_262 rfl rfl rfl ?_
                                              refine jv_getI (q := 266) G dX8_member_263 fl_X8_122 rfl hS.1 hth rfl ?_
                                              refine jv_if_leN (q := 269) (tgt := 271) G dX8_member_266 (by decide) rfl (by omega) (fun c150 => ?_) (fun c150 => ?_)
                                              · have c2 : jv_I h149 (q 2) k_e = jv_bI false := (hD k_e (by omega)).1.trans (by rw [hse])
                                                have c12 := rt_12 Tt4
                                                have hl6 := Ot4.2.2.2.2.2.1
                                                have hF : FW (fun k j => (k = 12 ∧ j = 10 * k_e + k3) ∨ (k_m k ∧ j = 6 * (10 * k_e + k3) + (mt_m t4).length)) xcr x q h149 h149 := FW.rf
                                                have hSn := hS
                                                refine jv_bipush (q := 273) (v := nI 6) G dX8_member_271 (by decide) rfl ?_
                                                refine jv_iload (q := 275) G 2 dX8_member_273 rfl rfl ?_
                                                refine jv_imulN (q := 276) G dX8_member_275 rfl ?_
                                                refine jv_aload_n (q := 277) G 3 dX8_member_276 rfl rfl rfl ?_
                                                refine jv_getQ (q := 280) G dX8_member_277 fl_X8_41 rfl hS.1 (rf_p12 hS) rfl ?_
                                                refine jv_iload (q := 282) G 2 dX8_member_280 rfl rfl ?_
                                                refine jv_iald (q := 283) G dX8_member_282 (rf_a12 hS) rfl (by omega) (by decide) (rt_12 (hsc.T hS Tt4)) rfl ?_
                                                refine jv_iaddN (q := 284) G dX8_member_283 rfl ?_
                                                refine jv_istore (q := 286) (lo' := [(12, .int (nI ((6 * (10 * k_e + k3)) + ((mt_m t4).length)))), (11, .int (nI 1)), (10, .int (nI 0)), (9, .int (nI (10 * k_e + k3))), (0, .ref x), (1, .int (nI k_e)), (2, .int n), (3, .int (nI 2)), (4, .int o), (5, .int s), (6, .int a), (7, .int (jv_bI true)), (8, .int b)]) G dX8_member_284 (by decide) rfl rfl ?_
                                                refine jv_aload_n (q := 287) G 4 dX8_member_286 rfl rfl rfl ?_
                                                refine jv_getQ (q := 290) G dX8_member_287 fl_X8_41 rfl hS.1 (rf_p12 hS) rfl ?_
                                                refine jv_iload (q := 292) G 3 dX8_member_290 rfl rfl ?_
                                                refine jv_dup2 (q := 293) G dX8_member_292 rfl rfl rfl ?_
                                                refine jv_iald (q := 294) G dX8_member_293 (rf_a12 hS) rfl (by omega) (by decide) (rt_12 (hsc.T hS Tt4)) rfl ?_
                                                refine jv_iconst (q := 295) (v := nI 1) G dX8_member_294 (by decide) rfl ?_
                                                refine jv_iaddN (q := 296) G dX8_member_295 rfl ?_
                                                refine jv_iast (q := 297) G dX8_member_296 (rf_a12 hS) rfl (by omega) (by decide) rfl ?_
                                                have hF := hF.wq hS (k := 12) (j := 10 * k_e + k3) (by decide) rfl (Or.inl ⟨rfl, rfl⟩) (nI (((mt_m t4).length) + 1))
                                                have hSn2 := hF.S hS
                                                have c2 := (qI_q hSn (k := 2) (k' := 12) (h := h149) (by decide) rfl (by decide) rfl (k_e) (10 * k_e + k3) (nI (((mt_m t4).length) + 1))).trans ((if_neg (fun e => absurd e.1 (by decide))).trans c2)
                                                have hth := (xI_q hSn (k := 12) (h := h149) (by decide) rfl 0 (10 * k_e + k3) (nI (((mt_m t4).length) + 1))).trans hth
                                                have c_12_151 : jv_I (jv_wI h149 (q 12) (10 * k_e + k3) (nI (((mt_m t4).length) + 1))) (q 12) (10 * k_e + k3) = nI (((mt_m t4).length) + 1) := jv_I_self _ _ _ _
                                                generalize jv_wI h149 (q 12) (10 * k_e + k3) (nI (((mt_m t4).length) + 1)) = h151 at hF hSn2 c2 hth c_12_151 ⊢
                                                clear hSn; have hSn := hSn2; clear hSn2
                                                refine jv_aload_n (q := 298) G 4 dX8_member_297 rfl rfl rfl ?_
                                                refine jv_getQ (q := 301) G dX8_member_298 fl_X8_44 rfl hSn.1 (rf_p13 hSn) rfl ?_
                                                refine jv_iload (q := 303) G 0 dX8_member_301 rfl rfl ?_
                                                refine jv_iload (q := 305) G 2 dX8_member_303 rfl rfl ?_
                                                refine jv_if_eqN (q := 308) (tgt := 312) G dX8_member_305 (by decide) rfl (by omega) (fun c152 => ?_) (fun c152 => ?_)
                                                · refine jv_iconst (q := 313) (v := nI 0) G dX8_member_312 (by decide) rfl ?_
                                                  refine jv_iast (q := 314) G dX8_member_313 (rf_a13 hSn) rfl (by omega) (by decide) rfl ?_
                                                  have hF := hF.wq hS (k := 13) (j := (6 * (10 * k_e + k3)) + ((mt_m t4).length)) (by decide) rfl (Or.inr ⟨by unfold k_m; omega, rfl⟩) (nI 0)
                                                  have hSn2 := hF.S hS
                                                  have c2 := (qI_q hSn (k := 2) (k' := 13) (h := h151) (by decide) rfl (by decide) rfl (k_e) ((6 * (10 * k_e + k3)) + ((mt_m t4).length)) (nI 0)).trans ((if_neg (fun e => absurd e.1 (by decide))).trans c2)
                                                  have c_12_151 := (qI_q hSn (k := 12) (k' := 13) (h := h151) (by decide) rfl (by decide) rfl (10 * k_e + k3) ((6 * (10 * k_e + k3)) + ((mt_m t4).length)) (nI 0)).trans ((if_neg (fun e => absurd e.1 (by decide))).trans c_12_151)
                                                  have hth := (xI_q hSn (k := 13) (h := h151) (by decide) rfl 0 ((6 * (10 * k_e + k3)) + ((mt_m t4).length)) (nI 0)).trans hth
                                                  have c_13_153 : jv_I (jv_wI h151 (q 13) ((6 * (10 * k_e + k3)) + ((mt_m t4).length)) (nI 0)) (q 13) ((6 * (10 * k_e + k3)) + ((mt_m t4).length)) = nI 0 := jv_I_self _ _ _ _
                                                  generalize jv_wI h151 (q 13) ((6 * (10 * k_e + k3)) + ((mt_m t4).length)) (nI 0) = h153 at hF hSn2 c2 c_12_151 hth c_13_153 ⊢
                                                  clear hSn; have hSn := hSn2; clear hSn2
                                                  refine jv_aload_n (q := 315) G 4 dX8_member_314 rfl rfl rfl ?_
                                                  refine jv_getQ (q := 318) G dX8_member_315 fl_X8_47 rfl hSn.1 (rf_p14 hSn) rfl ?_
                                                  refine jv_iload (q := 320) G 0 dX8_member_318 rfl rfl ?_
                                                  refine jv_iload (q := 322) G 8 dX8_member_320 rfl rfl ?_
                                                  refine jv_iast (q := 323) G dX8_member_322 (rf_a14 hSn) rfl (by omega) (by decide) rfl ?_
                                                  have hF := hF.wq hS (k := 14) (j := (6 * (10 * k_e + k3)) + ((mt_m t4).length)) (by decide) rfl (Or.inr ⟨by unfold k_m; omega, rfl⟩) (o)
                                                  have hSn2 := hF.S hS
                                                  have c2 := (qI_q hSn (k := 2) (k' := 14) (h := h153) (by decide) rfl (by decide) rfl (k_e) ((6 * (10 * k_e + k3)) + ((mt_m t4).length)) (o)).trans ((if_neg (fun e => absurd e.1 (by decide))).trans c2)
                                                  have c_12_151 := (qI_q hSn (k := 12) (k' := 14) (h := h153) (by decide) rfl (by decide) rfl (10 * k_e + k3) ((6 * (10 * k_e + k3)) + ((mt_m t4).length)) (o)).trans ((if_neg (fun e => absurd e.1 (by decide))).trans c_12_151)
                                                  have c_13_153 := (qI_q hSn (k := 13) (k' := 14) (h := h153) (by decide) rfl (by decide) rfl ((6 * (10 * k_e + k3)) + ((mt_m t4).length)) ((6 * (10 * k_e + k3)) + ((mt_m t4).length)) (o)).trans ((if_neg (fun e => absurd e.1 (by decide))).trans c_13_153)
                                                  have hth := (xI_q hSn (k := 14) (h := h153) (by decide) rfl 0 ((6 * (10 * k_e + k3)) + ((mt_m t4).length)) (o)).trans hth
                                                  have c_14_154 : jv_I (jv_wI h153 (q 14) ((6 * (10 * k_e + k3)) + ((mt_m t4).length)) o) (q 14) ((6 * (10 * k_e + k3)) + ((mt_m t4).length)) = o := jv_I_self _ _ _ _
                                                  generalize jv_wI h153 (q 14) ((6 * (10 * k_e + k3)) + ((mt_m t4).length)) o = h154 at hF hSn2 c2 c_12_151 c_13_153 hth c_14_154 ⊢
                                                  clear hSn; have hSn := hSn2; clear hSn2
                                                  refine jv_aload_n (q := 324) G 4 dX8_member_323 rfl rfl rfl ?_
                                                  refine jv_getQ (q := 327) G dX8_member_324 fl_X8_50 rfl hSn.1 (rf_p15 hSn) rfl ?_
                                                  refine jv_iload (q := 329) G 0 dX8_member_327 rfl rfl ?_
                                                  refine jv_iload (q := 331) G 9 dX8_member_329 rfl rfl ?_
                                                  refine jv_iast (q := 332) G dX8_member_331 (rf_a15 hSn) rfl (by omega) (by decide) rfl ?_
                                                  have hF := hF.wq hS (k := 15) (j := (6 * (10 * k_e + k3)) + ((mt_m t4).length)) (by decide) rfl (Or.inr ⟨by unfold k_m; omega, rfl⟩) (s)
                                                  have hSn2 := hF.S hS
                                                  have c2 := (qI_q hSn (k := 2) (k' := 15) (h := h154) (by decide) rfl (by decide) rfl (k_e) ((6 * (10 * k_e + k3)) + ((mt_m t4).length)) (s)).trans ((if_neg (fun e => absurd e.1 (by decide))).trans c2)
                                                  have c_12_151 := (qI_q hSn (k := 12) (k' := 15) (h := h154) (by decide) rfl (by decide) rfl (10 * k_e + k3) ((6 * (10 * k_e + k3)) + ((mt_m t4).length)) (s)).trans ((if_neg (fun e => absurd e.1 (by decide))).trans c_12_151)
                                                  have c_13_153 := (qI_q hSn (k := 13) (k' := 15) (h := h154) (by decide) rfl (by decide) rfl ((6 * (10 * k_e + k3)) + ((mt_m t4).length)) ((6 * (10 * k_e + k3)) + ((mt_m t4).length)) (s)).trans ((if_neg (fun e => absurd e.1 (by decide))).trans c_13_153)
                                                  have c_14_154 := (qI_q hSn (k := 14) (k' := 15) (h := h154) (by decide) rfl (by decide) rfl ((6 * (10 * k_e + k3)) + ((mt_m t4).length)) ((6 * (10 * k_e + k3)) + ((mt_m t4).length)) (s)).trans ((if_neg (fun e => absurd e.1 (by decide))).trans c_14_154)
                                                  have hth := (xI_q hSn (k := 15) (h := h154) (by decide) rfl 0 ((6 * (10 * k_e + k3)) + ((mt_m t4).length)) (s)).trans hth
                                                  have c_15_155 : jv_I (jv_wI h154 (q 15) ((6 * (10 * k_e + k3)) + ((mt_m t4).length)) s) (q 15) ((6 * (10 * k_e + k3)) + ((mt_m t4).length)) = s := jv_I_self _ _ _ _
                                                  generalize jv_wI h154 (q 15) ((6 * (10 * k_e + k3)) + ((mt_m t4).length)) s = h155 at hF hSn2 c2 c_12_151 c_13_153 c_14_154 hth c_15_155 ⊢
                                                  clear hSn; have hSn := hSn2; clear hSn2
                                                  refine jv_aload_n (q := 333) G 4 dX8_member_332 rfl rfl rfl ?_
                                                  refine jv_getQ (q := 336) G dX8_member_333 fl_X8_53 rfl hSn.1 (rf_p16 hSn) rfl ?_
                                                  refine jv_iload (q := 338) G 0 dX8_member_336 rfl rfl ?_
                                                  refine jv_iload (q := 340) G 10 dX8_member_338 rfl rfl ?_
                                                  refine jv_iast (q := 341) G dX8_member_340 (rf_a16 hSn) rfl (by omega) (by decide) rfl ?_
                                                  have hF := hF.wq hS (k := 16) (j := (6 * (10 * k_e + k3)) + ((mt_m t4).length)) (by decide) rfl (Or.inr ⟨by unfold k_m; omega, rfl⟩) (a)
                                                  have hSn2 := hF.S hS
                                                  have c2 := (qI_q hSn (k := 2) (k' := 16) (h := h155) (by decide) rfl (by decide) rfl (k_e) ((6 * (10 * k_e + k3)) + ((mt_m t4).length)) (a)).trans ((if_neg (fun e => absurd e.1 (by decide))).trans c2)
                                                  have c_12_151 := (qI_q hSn (k := 12) (k' := 16) (h := h155) (by decide) rfl (by decide) rfl (10 * k_e + k3) ((6 * (10 * k_e + k3)) + ((mt_m t4).length)) (a)).trans ((if_neg (fun e => absurd e.1 (by decide))).trans c_12_151)
                                                  have c_13_153 := (qI_q hSn (k := 13) (k' := 16) (h := h155) (by decide) rfl (by decide) rfl ((6 * (10 * k_e + k3)) + ((mt_m t4).length)) ((6 * (10 * k_e + k3)) + ((mt_m t4).length)) (a)).trans ((if_neg (fun e => absurd e.1 (by decide))).trans c_13_153)
                                                  have c_14_154 := (qI_q hSn (k := 14) (k' := 16) (h := h155) (by decide) rfl (by decide) rfl ((6 * (10 * k_e + k3)) + ((mt_m t4).length)) ((6 * (10 * k_e + k3)) + ((mt_m t4).length)) (a)).trans ((if_neg (fun e => absurd e.1 (by decide))).trans c_14_154)
                                                  have c_15_155 := (qI_q hSn (k := 15) (k' := 16) (h := h155) (by decide) rfl (by decide) rfl ((6 * (10 * k_e + k3)) + ((mt_m t4).length)) ((6 * (10 * k_e + k3)) + ((mt_m t4).length)) (a)).trans ((if_neg (fun e => absurd e.1 (by decide))).trans c_15_155)
                                                  have hth := (xI_q hSn (k := 16) (h := h155) (by decide) rfl 0 ((6 * (10 * k_e + k3)) + ((mt_m t4).length)) (a)).trans hth
                                                  have c_16_156 : jv_I (jv_wI h155 (q 16) ((6 * (10 * k_e + k3)) + ((mt_m t4).length)) a) (q 16) ((6 * (10 * k_e + k3)) + ((mt_m t4).length)) = a := jv_I_self _ _ _ _
                                                  generalize jv_wI h155 (q 16) ((6 * (10 * k_e + k3)) + ((mt_m t4).length)) a = h156 at hF hSn2 c2 c_12_151 c_13_153 c_14_154 c_15_155 hth c_16_156 ⊢
                                                  clear hSn; have hSn := hSn2; clear hSn2
                                                  refine jv_aload_n (q := 342) G 4 dX8_member_341 rfl rfl rfl ?_
                                                  refine jv_getQ (q := 345) G dX8_member_342 fl_X8_56 rfl hSn.1 (rf_p17 hSn) rfl ?_
                                                  refine jv_iload (q := 347) G 0 dX8_member_345 rfl rfl ?_
                                                  refine jv_iload (q := 349) G 11 dX8_member_347 rfl rfl ?_
                                                  refine jv_zast (q := 350) G dX8_member_349 (rf_a17 hSn) rfl (by omega) (by decide) rfl ?_
                                                  have hF := hF.wq hS (k := 17) (j := (6 * (10 * k_e + k3)) + ((mt_m t4).length)) (by decide) rfl (Or.inr ⟨by unfold k_m; omega, rfl⟩) (jv_bI true)
                                                  have hSn2 := hF.S hS
                                                  have c2 := (qI_q hSn (k := 2) (k' := 17) (h := h156) (by decide) rfl (by decide) rfl (k_e) ((6 * (10 * k_e + k3)) + ((mt_m t4).length)) (jv_bI true)).trans ((if_neg (fun e => absurd e.1 (by decide))).trans c2)
                                                  have c_12_151 := (qI_q hSn (k := 12) (k' := 17) (h := h156) (by decide) rfl (by decide) rfl (10 * k_e + k3) ((6 * (10 * k_e + k3)) + ((mt_m t4).length)) (jv_bI true)).trans ((if_neg (fun e => absurd e.1 (by decide))).trans c_12_151)
                                                  have c_13_153 := (qI_q hSn (k := 13) (k' := 17) (h := h156) (by decide) rfl (by decide) rfl ((6 * (10 * k_e + k3)) + ((mt_m t4).length)) ((6 * (10 * k_e + k3)) + ((mt_m t4).length)) (jv_bI true)).trans ((if_neg (fun e => absurd e.1 (by decide))).trans c_13_153)
                                                  have c_14_154 := (qI_q hSn (k := 14) (k' := 17) (h := h156) (by decide) rfl (by decide) rfl ((6 * (10 * k_e + k3)) + ((mt_m t4).length)) ((6 * (10 * k_e + k3)) + ((mt_m t4).length)) (jv_bI true)).trans ((if_neg (fun e => absurd e.1 (by decide))).trans c_14_154)
                                                  have c_15_155 := (qI_q hSn (k := 15) (k' := 17) (h := h156) (by decide) rfl (by decide) rfl ((6 * (10 * k_e + k3)) + ((mt_m t4).length)) ((6 * (10 * k_e + k3)) + ((mt_m t4).length)) (jv_bI true)).trans ((if_neg (fun e => absurd e.1 (by decide))).trans c_15_155)
                                                  have c_16_156 := (qI_q hSn (k := 16) (k' := 17) (h := h156) (by decide) rfl (by decide) rfl ((6 * (10 * k_e + k3)) + ((mt_m t4).length)) ((6 * (10 * k_e + k3)) + ((mt_m t4).length)) (jv_bI true)).trans ((if_neg (fun e => absurd e.1 (by decide))).trans c_16_156)
                                                  have hth := (xI_q hSn (k := 17) (h := h156) (by decide) rfl 0 ((6 * (10 * k_e + k3)) + ((mt_m t4).length)) (jv_bI true)).trans hth
                                                  have c_17_157 : jv_I (jv_wI h156 (q 17) ((6 * (10 * k_e + k3)) + ((mt_m t4).length)) (jv_bI true)) (q 17) ((6 * (10 * k_e + k3)) + ((mt_m t4).length)) = jv_bI true := jv_I_self _ _ _ _
                                                  generalize jv_wI h156 (q 17) ((6 * (10 * k_e + k3)) + ((mt_m t4).length)) (jv_bI true) = h157 at hF hSn2 c2 c_12_151 c_13_153 c_14_154 c_15_155 c_16_156 hth c_17_157 ⊢
                                                  clear hSn; have hSn := hSn2; clear hSn2
                                                  refine jv_aload_n (q := 351) G 4 dX8_member_350 rfl rfl rfl ?_
                                                  refine jv_getQ (q := 354) G dX8_member_351 fl_X8_59 rfl hSn.1 (rf_p18 hSn) rfl ?_
                                                  refine jv_iload (q := 356) G 0 dX8_member_354 rfl rfl ?_
                                                  refine jv_iload (q := 358) G 12 dX8_member_356 rfl rfl ?_
                                                  refine jv_iast (q := 359) G dX8_member_358 (rf_a18 hSn) rfl (by omega) (by decide) rfl ?_
                                                  have hF := hF.wq hS (k := 18) (j := (6 * (10 * k_e + k3)) + ((mt_m t4).length)) (by decide) rfl (Or.inr ⟨by unfold k_m; omega, rfl⟩) (b)
                                                  have hSn2 := hF.S hS
                                                  have c2 := (qI_q hSn (k := 2) (k' := 18) (h := h157) (by decide) rfl (by decide) rfl (k_e) ((6 * (10 * k_e + k3)) + ((mt_m t4).length)) (b)).trans ((if_neg (fun e => absurd e.1 (by decide))).trans c2)
                                                  have c_12_151 := (qI_q hSn (k := 12) (k' := 18) (h := h157) (by decide) rfl (by decide) rfl (10 * k_e + k3) ((6 * (10 * k_e + k3)) + ((mt_m t4).length)) (b)).trans ((if_neg (fun e => absurd e.1 (by decide))).trans c_12_151)
                                                  have c_13_153 := (qI_q hSn (k := 13) (k' := 18) (h := h157) (by decide) rfl (by decide) rfl ((6 * (10 * k_e + k3)) + ((mt_m t4).length)) ((6 * (10 * k_e + k3)) + ((mt_m t4).length)) (b)).trans ((if_neg (fun e => absurd e.1 (by decide))).trans c_13_153)
                                                  have c_14_154 := (qI_q hSn (k := 14) (k' := 18) (h := h157) (by decide) rfl (by decide) rfl ((6 * (10 * k_e + k3)) + ((mt_m t4).length)) ((6 * (10 * k_e + k3)) + ((mt_m t4).length)) (b)).trans ((if_neg (fun e => absurd e.1 (by decide))).trans c_14_154)
                                                  have c_15_155 := (qI_q hSn (k := 15) (k' := 18) (h := h157) (by decide) rfl (by decide) rfl ((6 * (10 * k_e + k3)) + ((mt_m t4).length)) ((6 * (10 * k_e + k3)) + ((mt_m t4).length)) (b)).trans ((if_neg (fun e => absurd e.1 (by decide))).trans c_15_155)
                                                  have c_16_156 := (qI_q hSn (k := 16) (k' := 18) (h := h157) (by decide) rfl (by decide) rfl ((6 * (10 * k_e + k3)) + ((mt_m t4).length)) ((6 * (10 * k_e + k3)) + ((mt_m t4).length)) (b)).trans ((if_neg (fun e => absurd e.1 (by decide))).trans c_16_156)
                                                  have c_17_157 := (qI_q hSn (k := 17) (k' := 18) (h := h157) (by decide) rfl (by decide) rfl ((6 * (10 * k_e + k3)) + ((mt_m t4).length)) ((6 * (10 * k_e + k3)) + ((mt_m t4).length)) (b)).trans ((if_neg (fun e => absurd e.1 (by decide))).trans c_17_157)
                                                  have hth := (xI_q hSn (k := 18) (h := h157) (by decide) rfl 0 ((6 * (10 * k_e + k3)) + ((mt_m t4).length)) (b)).trans hth
                                                  have c_18_158 : jv_I (jv_wI h157 (q 18) ((6 * (10 * k_e + k3)) + ((mt_m t4).length)) b) (q 18) ((6 * (10 * k_e + k3)) + ((mt_m t4).length)) = b := jv_I_self _ _ _ _
                                                  generalize jv_wI h157 (q 18) ((6 * (10 * k_e + k3)) + ((mt_m t4).length)) b = h158 at hF hSn2 c2 c_12_151 c_13_153 c_14_154 c_15_155 c_16_156 c_17_157 hth c_18_158 ⊢
                                                  clear hSn; have hSn := hSn2; clear hSn2
                                                  refine jv_aload_n (q := 360) G 4 dX8_member_359 rfl rfl rfl ?_
                                                  refine jv_getQ (q := 363) G dX8_member_360 fl_X8_62 rfl hSn.1 (rf_p19 hSn) rfl ?_
                                                  refine jv_iload (q := 365) G 0 dX8_member_363 rfl rfl ?_
                                                  refine jv_iload_n (q := 366) G 7 dX8_member_365 rfl rfl rfl ?_
                                                  refine jv_iconst (q := 367) (v := nI 2) G dX8_member_366 (by decide) rfl ?_
                                                  refine jv_icmp_neN (q := 370) (tgt := 374) G dX8_member_367 (by decide) rfl (by omega) (by omega) (fun c159 => ?_) (fun c159 => ?_)
                                                  · omega
                                                  · refine jv_iconst (q := 371) (v := nI 1) G dX8_member_370 (by decide) rfl ?_
                                                    refine jv_goto (q := 375) G dX8_member_371 (by decide) ?_
                                                    refine jv_topI (y := jv_bI true) rfl ?_
                                                    refine jv_zast (q := 376) G dX8_member_375 (rf_a19 hSn) rfl (by omega) (by decide) rfl ?_
                                                    have hF := hF.wq hS (k := 19) (j := (6 * (10 * k_e + k3)) + ((mt_m t4).length)) (by decide) rfl (Or.inr ⟨by unfold k_m; omega, rfl⟩) (jv_bI true)
                                                    have hSn2 := hF.S hS
                                                    have c2 := (qI_q hSn (k := 2) (k' := 19) (h := h158) (by decide) rfl (by decide) rfl (k_e) ((6 * (10 * k_e + k3)) + ((mt_m t4).length)) (jv_bI true)).trans ((if_neg (fun e => absurd e.1 (by decide))).trans c2)
                                                    have c_12_151 := (qI_q hSn (k := 12) (k' := 19) (h := h158) (by decide) rfl (by decide) rfl (10 * k_e + k3) ((6 * (10 * k_e + k3)) + ((mt_m t4).length)) (jv_bI true)).trans ((if_neg (fun e => absurd e.1 (by decide))).trans c_12_151)
                                                    have c_13_153 := (qI_q hSn (k := 13) (k' := 19) (h := h158) (by decide) rfl (by decide) rfl ((6 * (10 * k_e + k3)) + ((mt_m t4).length)) ((6 * (10 * k_e + k3)) + ((mt_m t4).length)) (jv_bI true)).trans ((if_neg (fun e => absurd e.1 (by decide))).trans c_13_153)
                                                    have c_14_154 := (qI_q hSn (k := 14) (k' := 19) (h := h158) (by decide) rfl (by decide) rfl ((6 * (10 * k_e + k3)) + ((mt_m t4).length)) ((6 * (10 * k_e + k3)) + ((mt_m t4).length)) (jv_bI true)).trans ((if_neg (fun e => absurd e.1 (by decide))).trans c_14_154)
                                                    have c_15_155 := (qI_q hSn (k := 15) (k' := 19) (h := h158) (by decide) rfl (by decide) rfl ((6 * (10 * k_e + k3)) + ((mt_m t4).length)) ((6 * (10 * k_e + k3)) + ((mt_m t4).length)) (jv_bI true)).trans ((if_neg (fun e => absurd e.1 (by decide))).trans c_15_155)
                                                    have c_16_156 := (qI_q hSn (k := 16) (k' := 19) (h := h158) (by decide) rfl (by decide) rfl ((6 * (10 * k_e + k3)) + ((mt_m t4).length)) ((6 * (10 * k_e + k3)) + ((mt_m t4).length)) (jv_bI true)).trans ((if_neg (fun e => absurd e.1 (by decide))).trans c_16_156)
                                                    have c_17_157 := (qI_q hSn (k := 17) (k' := 19) (h := h158) (by decide) rfl (by decide) rfl ((6 * (10 * k_e + k3)) + ((mt_m t4).length)) ((6 * (10 * k_e + k3)) + ((mt_m t4).length)) (jv_bI true)).trans ((if_neg (fun e => absurd e.1 (by decide))).trans c_17_157)
                                                    have c_18_158 := (qI_q hSn (k := 18) (k' := 19) (h := h158) (by decide) rfl (by decide) rfl ((6 * (10 * k_e + k3)) + ((mt_m t4).length)) ((6 * (10 * k_e + k3)) + ((mt_m t4).length)) (jv_bI true)).trans ((if_neg (fun e => absurd e.1 (by decide))).trans c_18_158)
                                                    have hth := (xI_q hSn (k := 19) (h := h158) (by decide) rfl 0 ((6 * (10 * k_e + k3)) + ((mt_m t4).length)) (jv_bI true)).trans hth
                                                    have c_19_160 : jv_I (jv_wI h158 (q 19) ((6 * (10 * k_e + k3)) + ((mt_m t4).length)) (jv_bI true)) (q 19) ((6 * (10 * k_e + k3)) + ((mt_m t4).length)) = jv_bI true := jv_I_self _ _ _ _
                                                    generalize jv_wI h158 (q 19) ((6 * (10 * k_e + k3)) + ((mt_m t4).length)) (jv_bI true) = h160 at hF hSn2 c2 c_12_151 c_13_153 c_14_154 c_15_155 c_16_156 c_17_157 c_18_158 hth c_19_160 ⊢
                                                    clear hSn; have hSn := hSn2; clear hSn2
                                                    refine jv_aload_n (q := 377) G 4 dX8_member_376 rfl rfl rfl ?_
                                                    refine jv_getQ (q := 380) G dX8_member_377 fl_X8_41 rfl hSn.1 (rf_p12 hSn) rfl ?_
                                                    refine jv_iload (q := 382) G 3 dX8_member_380 rfl rfl ?_
                                                    refine jv_iald (q := 383) G dX8_member_382 (rf_a12 hSn) rfl (by omega) (by decide) c_12_151 rfl ?_
                                                    refine jv_iret G hr dX8_member_383 (Nat.le_of_ble_eq_true rfl) (Nat.le_of_ble_eq_true rfl) ?_
                                                    have hg : m_mbG t4 (nI 2) o s a true b = true := by
                                                      unfold m_mbG; simp only [*, nI_21, nI_12, nI_102, eq_self,  if_true, if_false, Bool.false_eq_true, reduceIte, Bool.and_true, Bool.and_false, Bool.true_and, Bool.false_and, Bool.not_true, Bool.not_false, Bool.true_or, Bool.or_true, Bool.false_or, Option.isNone_some, Option.isNone_none, decide_true, decide_false]
                                                    have hM2 := rf_M.new (w1 := false) (w2 := true) hg (by simp only [*, nI_21, nI_12, nI_102, eq_self,  if_true, if_false, Bool.false_eq_true, reduceIte, Bool.and_true, Bool.and_false, Bool.true_and, Bool.false_and, Bool.not_true, Bool.not_false, Bool.true_or, Bool.or_true, Bool.false_or, Option.isNone_some, Option.isNone_none, decide_true, decide_false]) (by simp only [*, nI_21, nI_12, nI_102, eq_self,  if_true, if_false, Bool.false_eq_true, reduceIte, Bool.and_true, Bool.and_false, Bool.true_and, Bool.false_and, Bool.not_true, Bool.not_false, Bool.true_or, Bool.or_true, Bool.false_or, Option.isNone_some, Option.isNone_none, decide_true, decide_false]) c_13_153 c_14_154 c_15_155 c_16_156 c_17_157 c_18_158 c_19_160
                                                    have hT2 := rf_T.cM (Tt4) Ot4 (by have := Ot4.2.2.2.2.2.1; omega) hF c_12_151 hM2
                                                    refine pO.mk (th := 0) (r := nI ((mt_m t4).length + 1)) (M' := m_put M k_e (false, (ma_t M k_e).set k3 (m_tM t4 (mt_m t4 ++ [m_mbN (nI 2) o s a true b])))) ?_ rfl hth (rf_R.ed hR hke hse (hF.mono (fun k j w => o_T_E (i := k3) (by omega) (by unfold k_m at w; unfold o_T k_t k_m; have := Ot4.2.2.2.2.2.1; omega)) (fun _ z => z)) c2 (hE.upd lt4 (hF.mono (W' := o_T (10 * k_e + k3)) (fun k j w => by unfold k_m at w; unfold o_T k_t k_m; have := Ot4.2.2.2.2.2.1; omega) (fun _ z => z)) hT2) (fun z => by cases z)) ((hrs.FW hS0).fr.tr hF.fr)
                                                    unfold m_mb
                                                    rw [m_opT_yes zke hse (by assumption) ht4, if_pos hg, if_neg (by omega)]
                                                · omega
                                              · omega
                                            · refine jv_iconst (q := 255) (v := nI 4) G dX8_member_254 (by decide) rfl ?_
                                              refine jv_goto (q := 259) G dX8_member_255 (by decide) ?_
                                              refine jv_putI (q := 262) G dX8_member_259 fl_X8_122 rfl hS.1 rfl ?_
                                              have hr1 : rs x q h1 (jv_wI h1 x 0 (nI 4)) := rs.rf.wI (nI 4) (Or.inl ⟨rfl, Or.inl rfl⟩)
                                              have hth : jv_I (jv_wI h1 x 0 (nI 4)) x 0 = (nI 4) := jv_I_self _ _ _ _
                                              have hR := hr1.R hR
                                              have hrs := hrs.tr hr1
                                              generalize jv_wI h1 x 0 (nI 4) = h161 at hth hR hrs ⊢
                                              obtain ⟨hS, ⟨hn8, hn⟩, ⟨hm12, hm⟩, hD, hV, hCs⟩ := id hR
                                              have hsc : sc x q h161 h161 := sc.rf
                                              have hE := (hD k_e (by omega)).2
                                              have Tt4 := (hE.2.2 k3 t4 ht4).1
                                              refine jv_aload_n (q := 263) G 3 dX8_member_262 rfl rfl rfl ?_
                                              refine jv_getI (q := 266) G dX8_member_263 fl_X8_122 rfl hS.1 hth rfl ?_
                                              refine jv_if_leN (q := 269) (tgt := 271) G dX8_member_266 (by decide) rfl (by omega) (fun c162 => ?_) (fun c162 => ?_)
                                              · omega
                                              · refine jv_iconst (q := 270) (v := nI 0) G dX8_member_269 (by decide) rfl ?_
                                                refine jv_iret G hr dX8_member_270 (Nat.le_of_ble_eq_true rfl) (Nat.le_of_ble_eq_true rfl) ?_
                                                refine pO.no (M := M) hS0 ?_ rfl hth hR hrs
                                                unfold m_mb; rw [m_opT_yes zke hse (by assumption) ht4]; unfold m_mbG
                                                simp only [*, nI_21, nI_12, nI_102, eq_self,  if_true, if_false, Bool.false_eq_true, reduceIte, Bool.and_true, Bool.and_false, Bool.true_and, Bool.false_and, Bool.not_true, Bool.not_false, Bool.true_or, Bool.or_true, Bool.false_or, Option.isNone_some, Option.isNone_none, decide_true, decide_false]
                                          · omega
                                      · refine jv_topI (y := nI (6 * (10 * k_e + k3) + j143)) (by rw [hj145]; rfl) ?_
                                        obtain ⟨m144, hm144, wm144, nm144, sm144, lm144⟩ := m_own_some hj145
                                        have Mm144 := rt_m Tt4 hm144
                                        have Om144 := Ot4.2.2.2.2.2.2 m144 (List.mem_of_getElem? hm144)
                                        have Lm144 := Ot4.2.2.2.2.2.1
                                        have Bm144n := Om144.1; have Bm144s := Om144.2.1; have Bm144a := Om144.2.2.1
                                        refine jv_iconst (q := 222) (v := (-1)) G dX8_member_221 (by decide) rfl ?_
                                        refine jv_icmp_ne (q := 225) (tgt := 229) G dX8_member_222 (by decide) rfl (fun c163 => ?_) (fun c163 => ?_)
                                        · refine jv_iconst (q := 230) (v := nI 0) G dX8_member_229 (by decide) rfl ?_
                                          refine jv_istore (q := 232) (lo' := [(11, .int (nI 0)), (10, .int (nI 0)), (9, .int (nI (10 * k_e + k3))), (0, .ref x), (1, .int (nI k_e)), (2, .int n), (3, .int (nI 2)), (4, .int o), (5, .int s), (6, .int a), (7, .int (jv_bI true)), (8, .int b)]) G dX8_member_230 (by decide) rfl rfl ?_
                                          refine jv_aload_n (q := 233) G 3 dX8_member_232 rfl rfl rfl ?_
                                          refine jv_iload (q := 235) G 0 dX8_member_233 rfl rfl ?_
                                          refine jv_if_neN (q := 238) (tgt := 242) G dX8_member_235 (by decide) rfl (by omega) (fun c164 => ?_) (fun c164 => ?_)
                                          · omega
                                          · refine jv_iconst (q := 239) (v := nI 3) G dX8_member_238 (by decide) rfl ?_
                                            refine jv_goto (q := 259) G dX8_member_239 (by decide) ?_
                                            refine jv_putI (q := 262) G dX8_member_259 fl_X8_122 rfl hS.1 rfl ?_
                                            have hr1 : rs x q h1 (jv_wI h1 x 0 (nI 3)) := rs.rf.wI (nI 3) (Or.inl ⟨rfl, Or.inl rfl⟩)
                                            have hth : jv_I (jv_wI h1 x 0 (nI 3)) x 0 = (nI 3) := jv_I_self _ _ _ _
                                            have hR := hr1.R hR
                                            have hrs := hrs.tr hr1
                                            generalize jv_wI h1 x 0 (nI 3) = h165 at hth hR hrs ⊢
                                            obtain ⟨hS, ⟨hn8, hn⟩, ⟨hm12, hm⟩, hD, hV, hCs⟩ := id hR
                                            have hsc : sc x q h165 h165 := sc.rf
                                            have hE := (hD k_e (by omega)).2
                                            have Tt4 := (hE.2.2 k3 t4 ht4).1
                                            refine jv_aload_n (q := 263) G 3 dX8_member_262 rfl rfl rfl ?_
                                            refine jv_getI (q := 266) G dX8_member_263 fl_X8_122 rfl hS.1 hth rfl ?_
                                            refine jv_if_leN (q := 269) (tgt := 271) G dX8_member_266 (by decide) rfl (by omega) (fun c166 => ?_) (fun c166 => ?_)
                                            · omega
                                            · refine jv_iconst (q := 270) (v := nI 0) G dX8_member_269 (by decide) rfl ?_
                                              refine jv_iret G hr dX8_member_270 (Nat.le_of_ble_eq_true rfl) (Nat.le_of_ble_eq_true rfl) ?_
                                              refine pO.no (M := M) hS0 ?_ rfl hth hR hrs
                                              unfold m_mb; rw [m_opT_yes zke hse (by assumption) ht4]; unfold m_mbG
                                              simp only [*, nI_21, nI_12, nI_102, eq_self,  if_true, if_false, Bool.false_eq_true, reduceIte, Bool.and_true, Bool.and_false, Bool.true_and, Bool.false_and, Bool.not_true, Bool.not_false, Bool.true_or, Bool.or_true, Bool.false_or, Option.isNone_some, Option.isNone_none, decide_true, decide_false]
                                        · exact absurd c163 (jv_nI_m1 (by omega))
                                    · omega
                                · refine jv_iload (q := 175) G 9 dX8_member_173 rfl rfl ?_
                                  refine jv_iconst (q := 176) (v := nI 3) G dX8_member_175 (by decide) rfl ?_
                                  refine jv_icmp_ne (q := 179) (tgt := 193) G dX8_member_176 (by decide) rfl (fun c167 => ?_) (fun c167 => ?_)
                                  · refine jv_iconst (q := 194) (v := nI 0) G dX8_member_193 (by decide) rfl ?_
                                    refine jv_istore (q := 196) (lo' := [(11, .int (nI 0)), (10, .int (nI 0)), (9, .int (nI (10 * k_e + k3))), (0, .ref x), (1, .int (nI k_e)), (2, .int n), (3, .int (nI 2)), (4, .int o), (5, .int s), (6, .int a), (7, .int (jv_bI true)), (8, .int b)]) G dX8_member_194 (by decide) rfl rfl ?_
                                    refine jv_iload (q := 198) G 0 dX8_member_196 rfl rfl ?_
                                    refine jv_if_eqN (q := 201) (tgt := 232) G dX8_member_198 (by decide) rfl (by omega) (fun c168 => ?_) (fun c168 => ?_)
                                    · refine jv_aload_n (q := 233) G 3 dX8_member_232 rfl rfl rfl ?_
                                      refine jv_iload (q := 235) G 0 dX8_member_233 rfl rfl ?_
                                      refine jv_if_neN (q := 238) (tgt := 242) G dX8_member_235 (by decide) rfl (by omega) (fun c169 => ?_) (fun c169 => ?_)
                                      · omega
                                      · refine jv_iconst (q := 239) (v := nI 3) G dX8_member_238 (by decide) rfl ?_
                                        refine jv_goto (q := 259) G dX8_member_239 (by decide) ?_
                                        refine jv_putI (q := 262) G dX8_member_259 fl_X8_122 rfl hS.1 rfl ?_
                                        have hr1 : rs x q h1 (jv_wI h1 x 0 (nI 3)) := rs.rf.wI (nI 3) (Or.inl ⟨rfl, Or.inl rfl⟩)
                                        have hth : jv_I (jv_wI h1 x 0 (nI 3)) x 0 = (nI 3) := jv_I_self _ _ _ _
                                        have hR := hr1.R hR
                                        have hrs := hrs.tr hr1
                                        generalize jv_wI h1 x 0 (nI 3) = h170 at hth hR hrs ⊢
                                        obtain ⟨hS, ⟨hn8, hn⟩, ⟨hm12, hm⟩, hD, hV, hCs⟩ := id hR
                                        have hsc : sc x q h170 h170 := sc.rf
                                        have hE := (hD k_e (by omega)).2
                                        have Tt4 := (hE.2.2 k3 t4 ht4).1
                                        refine jv_aload_n (q := 263) G 3 dX8_member_262 rfl rfl rfl ?_
                                        refine jv_getI (q := 266) G dX8_member_263 fl_X8_122 rfl hS.1 hth rfl ?_
                                        refine jv_if_leN (q := 269) (tgt := 271) G dX8_member_266 (by decide) rfl (by omega) (fun c171 => ?_) (fun c171 => ?_)
                                        · omega
                                        · refine jv_iconst (q := 270) (v := nI 0) G dX8_member_269 (by decide) rfl ?_
                                          refine jv_iret G hr dX8_member_270 (Nat.le_of_ble_eq_true rfl) (Nat.le_of_ble_eq_true rfl) ?_
                                          refine pO.no (M := M) hS0 ?_ rfl hth hR hrs
                                          unfold m_mb; rw [m_opT_yes zke hse (by assumption) ht4]; unfold m_mbG
                                          simp only [*, nI_21, nI_12, nI_102, eq_self,  if_true, if_false, Bool.false_eq_true, reduceIte, Bool.and_true, Bool.and_false, Bool.true_and, Bool.false_and, Bool.not_true, Bool.not_false, Bool.true_or, Bool.or_true, Bool.false_or, Option.isNone_some, Option.isNone_none, decide_true, decide_false]
                                    · omega
                                  · subst c167
                                    refine jv_iload (q := 181) G 1 dX8_member_179 rfl rfl ?_
                                    refine jv_if_neN (q := 184) (tgt := 189) G dX8_member_181 (by decide) rfl (by omega) (fun c172 => ?_) (fun c172 => ?_)
                                    · omega
                                    · refine jv_iload (q := 186) G 10 dX8_member_184 rfl rfl ?_
                                      refine jv_if_eqB (q := 189) (tgt := 193) G dX8_member_186 (by decide) rfl (fun c173 => ?_) (fun c173 => ?_)
                                      · cases c173
                                      · refine jv_iconst (q := 190) (v := nI 1) G dX8_member_189 (by decide) rfl ?_
                                        refine jv_goto (q := 194) G dX8_member_190 (by decide) ?_
                                        refine jv_istore (q := 196) (lo' := [(11, .int (nI 1)), (10, .int (nI 0)), (9, .int (nI (10 * k_e + k3))), (0, .ref x), (1, .int (nI k_e)), (2, .int n), (3, .int (nI 2)), (4, .int o), (5, .int s), (6, .int (nI 3)), (7, .int (jv_bI true)), (8, .int b)]) G dX8_member_194 (by decide) rfl rfl ?_
                                        refine jv_iload (q := 198) G 0 dX8_member_196 rfl rfl ?_
                                        refine jv_if_eqN (q := 201) (tgt := 232) G dX8_member_198 (by decide) rfl (by omega) (fun c174 => ?_) (fun c174 => ?_)
                                        · omega
                                        · refine jv_aload_n (q := 202) G 3 dX8_member_201 rfl rfl rfl ?_
                                          refine jv_iload (q := 204) G 2 dX8_member_202 rfl rfl ?_
                                          refine jv_iload (q := 206) G 1 dX8_member_204 rfl rfl ?_
                                          refine jv_if_eqN (q := 209) (tgt := 213) G dX8_member_206 (by decide) rfl (by omega) (fun c175 => ?_) (fun c175 => ?_)
                                          · refine jv_iconst (q := 214) (v := nI 0) G dX8_member_213 (by decide) rfl ?_
                                            refine jv_iload (q := 216) G 7 dX8_member_214 rfl rfl ?_
                                            refine jv_iload (q := 218) G 8 dX8_member_216 rfl rfl ?_
                                            refine jv_callV_I (q := 221) (h1 := h1) (As := [.int (nI (10 * k_e + k3)), .int (nI 0), .int o, .int s]) (rest := []) (ce' := 0) (sl' := 0) (r := jv_oN ((m_own t4 (nI 0) o s).map (fun j => 6 * (10 * k_e + k3) + j))) G Z ml_X8_155 (r_own hlt (hsc.S hS) (by omega) (hsc.T hS Tt4) Ot4) hS.1 dX8_member_218 rfl (by decide) (by decide) (by decide) (by decide) (Nat.le_of_ble_eq_true rfl) rfl rfl rfl rfl ?_
                                            rcases Option.eq_none_or_eq_some (m_own t4 (nI 0) o s) with hj178 | ⟨j176, hj178⟩
                                            · refine jv_topI (y := (-1)) (by rw [hj178]; rfl) ?_
                                              refine jv_iconst (q := 222) (v := (-1)) G dX8_member_221 (by decide) rfl ?_
                                              refine jv_icmp_ne (q := 225) (tgt := 229) G dX8_member_222 (by decide) rfl (fun c179 => ?_) (fun c179 => ?_)
                                              · exact absurd rfl c179
                                              · refine jv_iconst (q := 226) (v := nI 1) G dX8_member_225 (by decide) rfl ?_
                                                refine jv_goto (q := 230) G dX8_member_226 (by decide) ?_
                                                refine jv_istore (q := 232) (lo' := [(11, .int (nI 1)), (10, .int (nI 0)), (9, .int (nI (10 * k_e + k3))), (0, .ref x), (1, .int (nI k_e)), (2, .int n), (3, .int (nI 2)), (4, .int o), (5, .int s), (6, .int (nI 3)), (7, .int (jv_bI true)), (8, .int b)]) G dX8_member_230 (by decide) rfl rfl ?_
                                                refine jv_aload_n (q := 233) G 3 dX8_member_232 rfl rfl rfl ?_
                                                refine jv_iload (q := 235) G 0 dX8_member_233 rfl rfl ?_
                                                refine jv_if_neN (q := 238) (tgt := 242) G dX8_member_235 (by decide) rfl (by omega) (fun c180 => ?_) (fun c180 => ?_)
                                                · refine jv_aload_n (q := 243) G 3 dX8_member_242 rfl rfl rfl ?_
                                                  refine jv_getQ (q := 246) G dX8_member_243 fl_X8_41 rfl hS.1 (rf_p12 hS) rfl ?_
                                                  refine jv_iload (q := 248) G 2 dX8_member_246 rfl rfl ?_
                                                  refine jv_iald (q := 249) G dX8_member_248 (rf_a12 hS) rfl (by omega) (by decide) (rt_12 (hsc.T hS Tt4)) rfl ?_
                                                  refine jv_bipush (q := 251) (v := nI 6) G dX8_member_249 (by decide) rfl ?_
                                                  refine jv_icmp_neN (q := 254) (tgt := 258) G dX8_member_251 (by decide) rfl (by omega) (by omega) (fun c181 => ?_) (fun c181 => ?_)
                                                  · refine jv_iconst (q := 259) (v := nI 0) G dX8_member_258 (by decide) rfl ?_
                                                    refine jv_putI (q := 262) G dX8_member_259 fl_X8_122 rfl hS.1 rfl ?_
                                                    have hr1 : rs x q h1 (jv_wI h1 x 0 (nI 0)) := rs.rf.wI (nI 0) (Or.inl ⟨rfl, Or.inl rfl⟩)
                                                    have hth : jv_I (jv_wI h1 x 0 (nI 0)) x 0 = (nI 0) := jv_I_self _ _ _ _
                                                    have hR := hr1.R hR
                                                    have hrs := hrs.tr hr1
                                                    generalize jv_wI h1 x 0 (nI 0) = h182 at hth hR hrs ⊢
                                                    obtain ⟨hS, ⟨hn8, hn⟩, ⟨hm12, hm⟩, hD, hV, hCs⟩ := id hR
                                                    have hsc : sc x q h182 h182 := sc.rf
                                                    have hE := (hD k_e (by omega)).2
                                                    have Tt4 := (hE.2.2 k3 t4 ht4).1
                                                    refine jv_aload_n (q := 263) G 3 dX8_member_262 rfl rfl rfl ?_
                                                    refine jv_getI (q := 266) G dX8_member_263 fl_X8_122 rfl hS.1 hth rfl ?_
                                                    refine jv_if_leN (q := 269) (tgt := 271) G dX8_member_266 (by decide) rfl (by omega) (fun c183 => ?_) (fun c183 => ?_)
                                                    · have c2 : jv_I h182 (q 2) k_e = jv_bI false := (hD k_e (by omega)).1.trans (by rw [hse])
                                                      have c12 := rt_12 Tt4
                                                      have hl6 := Ot4.2.2.2.2.2.1
                                                      have hF : FW (fun k j => (k = 12 ∧ j = 10 * k_e + k3) ∨ (k_m k ∧ j = 6 * (10 * k_e + k3) + (mt_m t4).length)) xcr x q h182 h182 := FW.rf
                                                      have hSn := hS
                                                      refine jv_bipush (q := 273) (v := nI 6) G dX8_member_271 (by decide) rfl ?_
                                                      refine jv_iload (q := 275) G 2 dX8_member_273 rfl rfl ?_
                                                      refine jv_imulN (q := 276) G dX8_member_275 rfl ?_
                                                      refine jv_aload_n (q := 277) G 3 dX8_member_276 rfl rfl rfl ?_
                                                      refine jv_getQ (q := 280) G dX8_member_277 fl_X8_41 rfl hS.1 (rf_p12 hS) rfl ?_
                                                      refine jv_iload (q := 282) G 2 dX8_member_280 rfl rfl ?_
                                                      refine jv_iald (q := 283) G dX8_member_282 (rf_a12 hS) rfl (by omega) (by decide) (rt_12 (hsc.T hS Tt4)) rfl ?_
                                                      refine jv_iaddN (q := 284) G dX8_member_283 rfl ?_
                                                      refine jv_istore (q := 286) (lo' := [(12, .int (nI ((6 * (10 * k_e + k3)) + ((mt_m t4).length)))), (11, .int (nI 1)), (10, .int (nI 0)), (9, .int (nI (10 * k_e + k3))), (0, .ref x), (1, .int (nI k_e)), (2, .int n), (3, .int (nI 2)), (4, .int o), (5, .int s), (6, .int (nI 3)), (7, .int (jv_bI true)), (8, .int b)]) G dX8_member_284 (by decide) rfl rfl ?_
                                                      refine jv_aload_n (q := 287) G 4 dX8_member_286 rfl rfl rfl ?_
                                                      refine jv_getQ (q := 290) G dX8_member_287 fl_X8_41 rfl hS.1 (rf_p12 hS) rfl ?_
                                                      refine jv_iload (q := 292) G 3 dX8_member_290 rfl rfl ?_
                                                      refine jv_dup2 (q := 293) G dX8_member_292 rfl rfl rfl ?_
                                                      refine jv_iald (q := 294) G dX8_member_293 (rf_a12 hS) rfl (by omega) (by decide) (rt_12 (hsc.T hS Tt4)) rfl ?_
                                                      refine jv_iconst (q := 295) (v := nI 1) G dX8_member_294 (by decide) rfl ?_
                                                      refine jv_iaddN (q := 296) G dX8_member_295 rfl ?_
                                                      refine jv_iast (q := 297) G dX8_member_296 (rf_a12 hS) rfl (by omega) (by decide) rfl ?_
                                                      have hF := hF.wq hS (k := 12) (j := 10 * k_e + k3) (by decide) rfl (Or.inl ⟨rfl, rfl⟩) (nI (((mt_m t4).length) + 1))
                                                      have hSn2 := hF.S hS
                                                      have c2 := (qI_q hSn (k := 2) (k' := 12) (h := h182) (by decide) rfl (by decide) rfl (k_e) (10 * k_e + k3) (nI (((mt_m t4).length) + 1))).trans ((if_neg (fun e => absurd e.1 (by decide))).trans c2)
                                                      have hth := (xI_q hSn (k := 12) (h := h182) (by decide) rfl 0 (10 * k_e + k3) (nI (((mt_m t4).length) + 1))).trans hth
                                                      have c_12_184 : jv_I (jv_wI h182 (q 12) (10 * k_e + k3) (nI (((mt_m t4).length) + 1))) (q 12) (10 * k_e + k3) = nI (((mt_m t4).length) + 1) := jv_I_self _ _ _ _
                                                      generalize jv_wI h182 (q 12) (10 * k_e + k3) (nI (((mt_m t4).length) + 1)) = h184 at hF hSn2 c2 hth c_12_184 ⊢
                                                      clear hSn; have hSn := hSn2; clear hSn2
                                                      refine jv_aload_n (q := 298) G 4 dX8_member_297 rfl rfl rfl ?_
                                                      refine jv_getQ (q := 301) G dX8_member_298 fl_X8_44 rfl hSn.1 (rf_p13 hSn) rfl ?_
                                                      refine jv_iload (q := 303) G 0 dX8_member_301 rfl rfl ?_
                                                      refine jv_iload (q := 305) G 2 dX8_member_303 rfl rfl ?_
                                                      refine jv_if_eqN (q := 308) (tgt := 312) G dX8_member_305 (by decide) rfl (by omega) (fun c185 => ?_) (fun c185 => ?_)
                                                      · refine jv_iconst (q := 313) (v := nI 0) G dX8_member_312 (by decide) rfl ?_
                                                        refine jv_iast (q := 314) G dX8_member_313 (rf_a13 hSn) rfl (by omega) (by decide) rfl ?_
                                                        have hF := hF.wq hS (k := 13) (j := (6 * (10 * k_e + k3)) + ((mt_m t4).length)) (by decide) rfl (Or.inr ⟨by unfold k_m; omega, rfl⟩) (nI 0)
                                                        have hSn2 := hF.S hS
                                                        have c2 := (qI_q hSn (k := 2) (k' := 13) (h := h184) (by decide) rfl (by decide) rfl (k_e) ((6 * (10 * k_e + k3)) + ((mt_m t4).length)) (nI 0)).trans ((if_neg (fun e => absurd e.1 (by decide))).trans c2)
                                                        have c_12_184 := (qI_q hSn (k := 12) (k' := 13) (h := h184) (by decide) rfl (by decide) rfl (10 * k_e + k3) ((6 * (10 * k_e + k3)) + ((mt_m t4).length)) (nI 0)).trans ((if_neg (fun e => absurd e.1 (by decide))).trans c_12_184)
                                                        have hth := (xI_q hSn (k := 13) (h := h184) (by decide) rfl 0 ((6 * (10 * k_e + k3)) + ((mt_m t4).length)) (nI 0)).trans hth
                                                        have c_13_186 : jv_I (jv_wI h184 (q 13) ((6 * (10 * k_e + k3)) + ((mt_m t4).length)) (nI 0)) (q 13) ((6 * (10 * k_e + k3)) + ((mt_m t4).length)) = nI 0 := jv_I_self _ _ _ _
                                                        generalize jv_wI h184 (q 13) ((6 * (10 * k_e + k3)) + ((mt_m t4).length)) (nI 0) = h186 at hF hSn2 c2 c_12_184 hth c_13_186 ⊢
                                                        clear hSn; have hSn := hSn2; clear hSn2
                                                        refine jv_aload_n (q := 315) G 4 dX8_member_314 rfl rfl rfl ?_
                                                        refine jv_getQ (q := 318) G dX8_member_315 fl_X8_47 rfl hSn.1 (rf_p14 hSn) rfl ?_
                                                        refine jv_iload (q := 320) G 0 dX8_member_318 rfl rfl ?_
                                                        refine jv_iload (q := 322) G 8 dX8_member_320 rfl rfl ?_
                                                        refine jv_iast (q := 323) G dX8_member_322 (rf_a14 hSn) rfl (by omega) (by decide) rfl ?_
                                                        have hF := hF.wq hS (k := 14) (j := (6 * (10 * k_e + k3)) + ((mt_m t4).length)) (by decide) rfl (Or.inr ⟨by unfold k_m; omega, rfl⟩) (o)
                                                        have hSn2 := hF.S hS
                                                        have c2 := (qI_q hSn (k := 2) (k' := 14) (h := h186) (by decide) rfl (by decide) rfl (k_e) ((6 * (10 * k_e + k3)) + ((mt_m t4).length)) (o)).trans ((if_neg (fun e => absurd e.1 (by decide))).trans c2)
                                                        have c_12_184 := (qI_q hSn (k := 12) (k' := 14) (h := h186) (by decide) rfl (by decide) rfl (10 * k_e + k3) ((6 * (10 * k_e + k3)) + ((mt_m t4).length)) (o)).trans ((if_neg (fun e => absurd e.1 (by decide))).trans c_12_184)
                                                        have c_13_186 := (qI_q hSn (k := 13) (k' := 14) (h := h186) (by decide) rfl (by decide) rfl ((6 * (10 * k_e + k3)) + ((mt_m t4).length)) ((6 * (10 * k_e + k3)) + ((mt_m t4).length)) (o)).trans ((if_neg (fun e => absurd e.1 (by decide))).trans c_13_186)
                                                        have hth := (xI_q hSn (k := 14) (h := h186) (by decide) rfl 0 ((6 * (10 * k_e + k3)) + ((mt_m t4).length)) (o)).trans hth
                                                        have c_14_187 : jv_I (jv_wI h186 (q 14) ((6 * (10 * k_e + k3)) + ((mt_m t4).length)) o) (q 14) ((6 * (10 * k_e + k3)) + ((mt_m t4).length)) = o := jv_I_self _ _ _ _
                                                        generalize jv_wI h186 (q 14) ((6 * (10 * k_e + k3)) + ((mt_m t4).length)) o = h187 at hF hSn2 c2 c_12_184 c_13_186 hth c_14_187 ⊢
                                                        clear hSn; have hSn := hSn2; clear hSn2
                                                        refine jv_aload_n (q := 324) G 4 dX8_member_323 rfl rfl rfl ?_
                                                        refine jv_getQ (q := 327) G dX8_member_324 fl_X8_50 rfl hSn.1 (rf_p15 hSn) rfl ?_
                                                        refine jv_iload (q := 329) G 0 dX8_member_327 rfl rfl ?_
                                                        refine jv_iload (q := 331) G 9 dX8_member_329 rfl rfl ?_
                                                        refine jv_iast (q := 332) G dX8_member_331 (rf_a15 hSn) rfl (by omega) (by decide) rfl ?_
                                                        have hF := hF.wq hS (k := 15) (j := (6 * (10 * k_e + k3)) + ((mt_m t4).length)) (by decide) rfl (Or.inr ⟨by unfold k_m; omega, rfl⟩) (s)
                                                        have hSn2 := hF.S hS
                                                        have c2 := (qI_q hSn (k := 2) (k' := 15) (h := h187) (by decide) rfl (by decide) rfl (k_e) ((6 * (10 * k_e + k3)) + ((mt_m t4).length)) (s)).trans ((if_neg (fun e => absurd e.1 (by decide))).trans c2)
                                                        have c_12_184 := (qI_q hSn (k := 12) (k' := 15) (h := h187) (by decide) rfl (by decide) rfl (10 * k_e + k3) ((6 * (10 * k_e + k3)) + ((mt_m t4).length)) (s)).trans ((if_neg (fun e => absurd e.1 (by decide))).trans c_12_184)
                                                        have c_13_186 := (qI_q hSn (k := 13) (k' := 15) (h := h187) (by decide) rfl (by decide) rfl ((6 * (10 * k_e + k3)) + ((mt_m t4).length)) ((6 * (10 * k_e + k3)) + ((mt_m t4).length)) (s)).trans ((if_neg (fun e => absurd e.1 (by decide))).trans c_13_186)
                                                        have c_14_187 := (qI_q hSn (k := 14) (k' := 15) (h := h187) (by decide) rfl (by decide) rfl ((6 * (10 * k_e + k3)) + ((mt_m t4).length)) ((6 * (10 * k_e + k3)) + ((mt_m t4).length)) (s)).trans ((if_neg (fun e => absurd e.1 (by decide))).trans c_14_187)
                                                        have hth := (xI_q hSn (k := 15) (h := h187) (by decide) rfl 0 ((6 * (10 * k_e + k3)) + ((mt_m t4).length)) (s)).trans hth
                                                        have c_15_188 : jv_I (jv_wI h187 (q 15) ((6 * (10 * k_e + k3)) + ((mt_m t4).length)) s) (q 15) ((6 * (10 * k_e + k3)) + ((mt_m t4).length)) = s := jv_I_self _ _ _ _
                                                        generalize jv_wI h187 (q 15) ((6 * (10 * k_e + k3)) + ((mt_m t4).length)) s = h188 at hF hSn2 c2 c_12_184 c_13_186 c_14_187 hth c_15_188 ⊢
                                                        clear hSn; have hSn := hSn2; clear hSn2
                                                        refine jv_aload_n (q := 333) G 4 dX8_member_332 rfl rfl rfl ?_
                                                        refine jv_getQ (q := 336) G dX8_member_333 fl_X8_53 rfl hSn.1 (rf_p16 hSn) rfl ?_
                                                        refine jv_iload (q := 338) G 0 dX8_member_336 rfl rfl ?_
                                                        refine jv_iload (q := 340) G 10 dX8_member_338 rfl rfl ?_
                                                        refine jv_iast (q := 341) G dX8_member_340 (rf_a16 hSn) rfl (by omega) (by decide) rfl ?_
                                                        have hF := hF.wq hS (k := 16) (j := (6 * (10 * k_e + k3)) + ((mt_m t4).length)) (by decide) rfl (Or.inr ⟨by unfold k_m; omega, rfl⟩) (nI 3)
                                                        have hSn2 := hF.S hS
                                                        have c2 := (qI_q hSn (k := 2) (k' := 16) (h := h188) (by decide) rfl (by decide) rfl (k_e) ((6 * (10 * k_e + k3)) + ((mt_m t4).length)) (nI 3)).trans ((if_neg (fun e => absurd e.1 (by decide))).trans c2)
                                                        have c_12_184 := (qI_q hSn (k := 12) (k' := 16) (h := h188) (by decide) rfl (by decide) rfl (10 * k_e + k3) ((6 * (10 * k_e + k3)) + ((mt_m t4).length)) (nI 3)).trans ((if_neg (fun e => absurd e.1 (by decide))).trans c_12_184)
                                                        have c_13_186 := (qI_q hSn (k := 13) (k' := 16) (h := h188) (by decide) rfl (by decide) rfl ((6 * (10 * k_e + k3)) + ((mt_m t4).length)) ((6 * (10 * k_e + k3)) + ((mt_m t4).length)) (nI 3)).trans ((if_neg (fun e => absurd e.1 (by decide))).trans c_13_186)
                                                        have c_14_187 := (qI_q hSn (k := 14) (k' := 16) (h := h188) (by decide) rfl (by decide) rfl ((6 * (10 * k_e + k3)) + ((mt_m t4).length)) ((6 * (10 * k_e + k3)) + ((mt_m t4).length)) (nI 3)).trans ((if_neg (fun e => absurd e.1 (by decide))).trans c_14_187)
                                                        have c_15_188 := (qI_q hSn (k := 15) (k' := 16) (h := h188) (by decide) rfl (by decide) rfl ((6 * (10 * k_e + k3)) + ((mt_m t4).length)) ((6 * (10 * k_e + k3)) + ((mt_m t4).length)) (nI 3)).trans ((if_neg (fun e => absurd e.1 (by decide))).trans c_15_188)
                                                        have hth := (xI_q hSn (k := 16) (h := h188) (by decide) rfl 0 ((6 * (10 * k_e + k3)) + ((mt_m t4).length)) (nI 3)).trans hth
                                                        have c_16_189 : jv_I (jv_wI h188 (q 16) ((6 * (10 * k_e + k3)) + ((mt_m t4).length)) (nI 3)) (q 16) ((6 * (10 * k_e + k3)) + ((mt_m t4).length)) = nI 3 := jv_I_self _ _ _ _
                                                        generalize jv_wI h188 (q 16) ((6 * (10 * k_e + k3)) + ((mt_m t4).length)) (nI 3) = h189 at hF hSn2 c2 c_12_184 c_13_186 c_14_187 c_15_188 hth c_16_189 ⊢
                                                        clear hSn; have hSn := hSn2; clear hSn2
                                                        refine jv_aload_n (q := 342) G 4 dX8_member_341 rfl rfl rfl ?_
                                                        refine jv_getQ (q := 345) G dX8_member_342 fl_X8_56 rfl hSn.1 (rf_p17 hSn) rfl ?_
                                                        refine jv_iload (q := 347) G 0 dX8_member_345 rfl rfl ?_
                                                        refine jv_iload (q := 349) G 11 dX8_member_347 rfl rfl ?_
                                                        refine jv_zast (q := 350) G dX8_member_349 (rf_a17 hSn) rfl (by omega) (by decide) rfl ?_
                                                        have hF := hF.wq hS (k := 17) (j := (6 * (10 * k_e + k3)) + ((mt_m t4).length)) (by decide) rfl (Or.inr ⟨by unfold k_m; omega, rfl⟩) (jv_bI true)
                                                        have hSn2 := hF.S hS
                                                        have c2 := (qI_q hSn (k := 2) (k' := 17) (h := h189) (by decide) rfl (by decide) rfl (k_e) ((6 * (10 * k_e + k3)) + ((mt_m t4).length)) (jv_bI true)).trans ((if_neg (fun e => absurd e.1 (by decide))).trans c2)
                                                        have c_12_184 := (qI_q hSn (k := 12) (k' := 17) (h := h189) (by decide) rfl (by decide) rfl (10 * k_e + k3) ((6 * (10 * k_e + k3)) + ((mt_m t4).length)) (jv_bI true)).trans ((if_neg (fun e => absurd e.1 (by decide))).trans c_12_184)
                                                        have c_13_186 := (qI_q hSn (k := 13) (k' := 17) (h := h189) (by decide) rfl (by decide) rfl ((6 * (10 * k_e + k3)) + ((mt_m t4).length)) ((6 * (10 * k_e + k3)) + ((mt_m t4).length)) (jv_bI true)).trans ((if_neg (fun e => absurd e.1 (by decide))).trans c_13_186)
                                                        have c_14_187 := (qI_q hSn (k := 14) (k' := 17) (h := h189) (by decide) rfl (by decide) rfl ((6 * (10 * k_e + k3)) + ((mt_m t4).length)) ((6 * (10 * k_e + k3)) + ((mt_m t4).length)) (jv_bI true)).trans ((if_neg (fun e => absurd e.1 (by decide))).trans c_14_187)
                                                        have c_15_188 := (qI_q hSn (k := 15) (k' := 17) (h := h189) (by decide) rfl (by decide) rfl ((6 * (10 * k_e + k3)) + ((mt_m t4).length)) ((6 * (10 * k_e + k3)) + ((mt_m t4).length)) (jv_bI true)).trans ((if_neg (fun e => absurd e.1 (by decide))).trans c_15_188)
                                                        have c_16_189 := (qI_q hSn (k := 16) (k' := 17) (h := h189) (by decide) rfl (by decide) rfl ((6 * (10 * k_e + k3)) + ((mt_m t4).length)) ((6 * (10 * k_e + k3)) + ((mt_m t4).length)) (jv_bI true)).trans ((if_neg (fun e => absurd e.1 (by decide))).trans c_16_189)
                                                        have hth := (xI_q hSn (k := 17) (h := h189) (by decide) rfl 0 ((6 * (10 * k_e + k3)) + ((mt_m t4).length)) (jv_bI true)).trans hth
                                                        have c_17_190 : jv_I (jv_wI h189 (q 17) ((6 * (10 * k_e + k3)) + ((mt_m t4).length)) (jv_bI true)) (q 17) ((6 * (10 * k_e + k3)) + ((mt_m t4).length)) = jv_bI true := jv_I_self _ _ _ _
                                                        generalize jv_wI h189 (q 17) ((6 * (10 * k_e + k3)) + ((mt_m t4).length)) (jv_bI true) = h190 at hF hSn2 c2 c_12_184 c_13_186 c_14_187 c_15_188 c_16_189 hth c_17_190 ⊢
                                                        clear hSn; have hSn := hSn2; clear hSn2
                                                        refine jv_aload_n (q := 351) G 4 dX8_member_350 rfl rfl rfl ?_
                                                        refine jv_getQ (q := 354) G dX8_member_351 fl_X8_59 rfl hSn.1 (rf_p18 hSn) rfl ?_
                                                        refine jv_iload (q := 356) G 0 dX8_member_354 rfl rfl ?_
                                                        refine jv_iload (q := 358) G 12 dX8_member_356 rfl rfl ?_
                                                        refine jv_iast (q := 359) G dX8_member_358 (rf_a18 hSn) rfl (by omega) (by decide) rfl ?_
                                                        have hF := hF.wq hS (k := 18) (j := (6 * (10 * k_e + k3)) + ((mt_m t4).length)) (by decide) rfl (Or.inr ⟨by unfold k_m; omega, rfl⟩) (b)
                                                        have hSn2 := hF.S hS
                                                        have c2 := (qI_q hSn (k := 2) (k' := 18) (h := h190) (by decide) rfl (by decide) rfl (k_e) ((6 * (10 * k_e + k3)) + ((mt_m t4).length)) (b)).trans ((if_neg (fun e => absurd e.1 (by decide))).trans c2)
                                                        have c_12_184 := (qI_q hSn (k := 12) (k' := 18) (h := h190) (by decide) rfl (by decide) rfl (10 * k_e + k3) ((6 * (10 * k_e + k3)) + ((mt_m t4).length)) (b)).trans ((if_neg (fun e => absurd e.1 (by decide))).trans c_12_184)
                                                        have c_13_186 := (qI_q hSn (k := 13) (k' := 18) (h := h190) (by decide) rfl (by decide) rfl ((6 * (10 * k_e + k3)) + ((mt_m t4).length)) ((6 * (10 * k_e + k3)) + ((mt_m t4).length)) (b)).trans ((if_neg (fun e => absurd e.1 (by decide))).trans c_13_186)
                                                        have c_14_187 := (qI_q hSn (k := 14) (k' := 18) (h := h190) (by decide) rfl (by decide) rfl ((6 * (10 * k_e + k3)) + ((mt_m t4).length)) ((6 * (10 * k_e + k3)) + ((mt_m t4).length)) (b)).trans ((if_neg (fun e => absurd e.1 (by decide))).trans c_14_187)
                                                        have c_15_188 := (qI_q hSn (k := 15) (k' := 18) (h := h190) (by decide) rfl (by decide) rfl ((6 * (10 * k_e + k3)) + ((mt_m t4).length)) ((6 * (10 * k_e + k3)) + ((mt_m t4).length)) (b)).trans ((if_neg (fun e => absurd e.1 (by decide))).trans c_15_188)
                                                        have c_16_189 := (qI_q hSn (k := 16) (k' := 18) (h := h190) (by decide) rfl (by decide) rfl ((6 * (10 * k_e + k3)) + ((mt_m t4).length)) ((6 * (10 * k_e + k3)) + ((mt_m t4).length)) (b)).trans ((if_neg (fun e => absurd e.1 (by decide))).trans c_16_189)
                                                        have c_17_190 := (qI_q hSn (k := 17) (k' := 18) (h := h190) (by decide) rfl (by decide) rfl ((6 * (10 * k_e + k3)) + ((mt_m t4).length)) ((6 * (10 * k_e + k3)) + ((mt_m t4).length)) (b)).trans ((if_neg (fun e => absurd e.1 (by decide))).trans c_17_190)
                                                        have hth := (xI_q hSn (k := 18) (h := h190) (by decide) rfl 0 ((6 * (10 * k_e + k3)) + ((mt_m t4).length)) (b)).trans hth
                                                        have c_18_191 : jv_I (jv_wI h190 (q 18) ((6 * (10 * k_e + k3)) + ((mt_m t4).length)) b) (q 18) ((6 * (10 * k_e + k3)) + ((mt_m t4).length)) = b := jv_I_self _ _ _ _
                                                        generalize jv_wI h190 (q 18) ((6 * (10 * k_e + k3)) + ((mt_m t4).length)) b = h191 at hF hSn2 c2 c_12_184 c_13_186 c_14_187 c_15_188 c_16_189 c_17_190 hth c_18_191 ⊢
                                                        clear hSn; have hSn := hSn2; clear hSn2
                                                        refine jv_aload_n (q := 360) G 4 dX8_member_359 rfl rfl rfl ?_
                                                        refine jv_getQ (q := 363) G dX8_member_360 fl_X8_62 rfl hSn.1 (rf_p19 hSn) rfl ?_
                                                        refine jv_iload (q := 365) G 0 dX8_member_363 rfl rfl ?_
                                                        refine jv_iload_n (q := 366) G 7 dX8_member_365 rfl rfl rfl ?_
                                                        refine jv_iconst (q := 367) (v := nI 2) G dX8_member_366 (by decide) rfl ?_
                                                        refine jv_icmp_neN (q := 370) (tgt := 374) G dX8_member_367 (by decide) rfl (by omega) (by omega) (fun c192 => ?_) (fun c192 => ?_)
                                                        · omega
                                                        · refine jv_iconst (q := 371) (v := nI 1) G dX8_member_370 (by decide) rfl ?_
                                                          refine jv_goto (q := 375) G dX8_member_371 (by decide) ?_
                                                          refine jv_topI (y := jv_bI true) rfl ?_
                                                          refine jv_zast (q := 376) G dX8_member_375 (rf_a19 hSn) rfl (by omega) (by decide) rfl ?_
                                                          have hF := hF.wq hS (k := 19) (j := (6 * (10 * k_e + k3)) + ((mt_m t4).length)) (by decide) rfl (Or.inr ⟨by unfold k_m; omega, rfl⟩) (jv_bI true)
                                                          have hSn2 := hF.S hS
                                                          have c2 := (qI_q hSn (k := 2) (k' := 19) (h := h191) (by decide) rfl (by decide) rfl (k_e) ((6 * (10 * k_e + k3)) + ((mt_m t4).length)) (jv_bI true)).trans ((if_neg (fun e => absurd e.1 (by decide))).trans c2)
                                                          have c_12_184 := (qI_q hSn (k := 12) (k' := 19) (h := h191) (by decide) rfl (by decide) rfl (10 * k_e + k3) ((6 * (10 * k_e + k3)) + ((mt_m t4).length)) (jv_bI true)).trans ((if_neg (fun e => absurd e.1 (by decide))).trans c_12_184)
                                                          have c_13_186 := (qI_q hSn (k := 13) (k' := 19) (h := h191) (by decide) rfl (by decide) rfl ((6 * (10 * k_e + k3)) + ((mt_m t4).length)) ((6 * (10 * k_e + k3)) + ((mt_m t4).length)) (jv_bI true)).trans ((if_neg (fun e => absurd e.1 (by decide))).trans c_13_186)
                                                          have c_14_187 := (qI_q hSn (k := 14) (k' := 19) (h := h191) (by decide) rfl (by decide) rfl ((6 * (10 * k_e + k3)) + ((mt_m t4).length)) ((6 * (10 * k_e + k3)) + ((mt_m t4).length)) (jv_bI true)).trans ((if_neg (fun e => absurd e.1 (by decide))).trans c_14_187)
                                                          have c_15_188 := (qI_q hSn (k := 15) (k' := 19) (h := h191) (by decide) rfl (by decide) rfl ((6 * (10 * k_e + k3)) + ((mt_m t4).length)) ((6 * (10 * k_e + k3)) + ((mt_m t4).length)) (jv_bI true)).trans ((if_neg (fun e => absurd e.1 (by decide))).trans c_15_188)
                                                          have c_16_189 := (qI_q hSn (k := 16) (k' := 19) (h := h191) (by decide) rfl (by decide) rfl ((6 * (10 * k_e + k3)) + ((mt_m t4).length)) ((6 * (10 * k_e + k3)) + ((mt_m t4).length)) (jv_bI true)).trans ((if_neg (fun e => absurd e.1 (by decide))).trans c_16_189)
                                                          have c_17_190 := (qI_q hSn (k := 17) (k' := 19) (h := h191) (by decide) rfl (by decide) rfl ((6 * (10 * k_e + k3)) + ((mt_m t4).length)) ((6 * (10 * k_e + k3)) + ((mt_m t4).length)) (jv_bI true)).trans ((if_neg (fun e => absurd e.1 (by decide))).trans c_17_190)
                                                          have c_18_191 := (qI_q hSn (k := 18) (k' := 19) (h := h191) (by decide) rfl (by decide) rfl ((6 * (10 * k_e + k3)) + ((mt_m t4).length)) ((6 * (10 * k_e + k3)) + ((mt_m t4).length)) (jv_bI true)).trans ((if_neg (fun e => absurd e.1 (by decide))).trans c_18_191)
                                                          have hth := (xI_q hSn (k := 19) (h := h191) (by decide) rfl 0 ((6 * (10 * k_e + k3)) + ((mt_m t4).length)) (jv_bI true)).trans hth
                                                          have c_19_193 : jv_I (jv_wI h191 (q 19) ((6 * (10 * k_e + k3)) + ((mt_m t4).length)) (jv_bI true)) (q 19) ((6 * (10 * k_e + k3)) + ((mt_m t4).length)) = jv_bI true := jv_I_self _ _ _ _
                                                          generalize jv_wI h191 (q 19) ((6 * (10 * k_e + k3)) + ((mt_m t4).length)) (jv_bI true) = h193 at hF hSn2 c2 c_12_184 c_13_186 c_14_187 c_15_188 c_16_189 c_17_190 c_18_191 hth c_19_193 ⊢
                                                          clear hSn; have hSn := hSn2; clear hSn2
                                                          refine jv_aload_n (q := 377) G 4 dX8_member_376 rfl rfl rfl ?_
                                                          refine jv_getQ (q := 380) G dX8_member_377 fl_X8_41 rfl hSn.1 (rf_p12 hSn) rfl ?_
                                                          refine jv_iload (q := 382) G 3 dX8_member_380 rfl rfl ?_
                                                          refine jv_iald (q := 383) G dX8_member_382 (rf_a12 hSn) rfl (by omega) (by decide) c_12_184 rfl ?_
                                                          refine jv_iret G hr dX8_member_383 (Nat.le_of_ble_eq_true rfl) (Nat.le_of_ble_eq_true rfl) ?_
                                                          have hg : m_mbG t4 (nI 2) o s (nI 3) true b = true := by
                                                            unfold m_mbG; simp only [*, nI_21, nI_12, nI_102, eq_self,  if_true, if_false, Bool.false_eq_true, reduceIte, Bool.and_true, Bool.and_false, Bool.true_and, Bool.false_and, Bool.not_true, Bool.not_false, Bool.true_or, Bool.or_true, Bool.false_or, Option.isNone_some, Option.isNone_none, decide_true, decide_false]
                                                          have hM2 := rf_M.new (w1 := false) (w2 := true) hg (by simp only [*, nI_21, nI_12, nI_102, eq_self,  if_true, if_false, Bool.false_eq_true, reduceIte, Bool.and_true, Bool.and_false, Bool.true_and, Bool.false_and, Bool.not_true, Bool.not_false, Bool.true_or, Bool.or_true, Bool.false_or, Option.isNone_some, Option.isNone_none, decide_true, decide_false]) (by simp only [*, nI_21, nI_12, nI_102, eq_self,  if_true, if_false, Bool.false_eq_true, reduceIte, Bool.and_true, Bool.and_false, Bool.true_and, Bool.false_and, Bool.not_true, Bool.not_false, Bool.true_or, Bool.or_true, Bool.false_or, Option.isNone_some, Option.isNone_none, decide_true, decide_false]) c_13_186 c_14_187 c_15_188 c_16_189 c_17_190 c_18_191 c_19_193
                                                          have hT2 := rf_T.cM (Tt4) Ot4 (by have := Ot4.2.2.2.2.2.1; omega) hF c_12_184 hM2
                                                          refine pO.mk (th := 0) (r := nI ((mt_m t4).length + 1)) (M' := m_put M k_e (false, (ma_t M k_e).set k3 (m_tM t4 (mt_m t4 ++ [m_mbN (nI 2) o s (nI 3) true b])))) ?_ rfl hth (rf_R.ed hR hke hse (hF.mono (fun k j w => o_T_E (i := k3) (by omega) (by unfold k_m at w; unfold o_T k_t k_m; have := Ot4.2.2.2.2.2.1; omega)) (fun _ z => z)) c2 (hE.upd lt4 (hF.mono (W' := o_T (10 * k_e + k3)) (fun k j w => by unfold k_m at w; unfold o_T k_t k_m; have := Ot4.2.2.2.2.2.1; omega) (fun _ z => z)) hT2) (fun z => by cases z)) ((hrs.FW hS0).fr.tr hF.fr)
                                                          unfold m_mb
                                                          rw [m_opT_yes zke hse (by assumption) ht4, if_pos hg, if_neg (by omega)]
                                                      · omega
                                                    · omega
                                                  · refine jv_iconst (q := 255) (v := nI 4) G dX8_member_254 (by decide) rfl ?_
                                                    refine jv_goto (q := 259) G dX8_member_255 (by decide) ?_
                                                    refine jv_putI (q := 262) G dX8_member_259 fl_X8_122 rfl hS.1 rfl ?_
                                                    have hr1 : rs x q h1 (jv_wI h1 x 0 (nI 4)) := rs.rf.wI (nI 4) (Or.inl ⟨rfl, Or.inl rfl⟩)
                                                    have hth : jv_I (jv_wI h1 x 0 (nI 4)) x 0 = (nI 4) := jv_I_self _ _ _ _
                                                    have hR := hr1.R hR
                                                    have hrs := hrs.tr hr1
                                                    generalize jv_wI h1 x 0 (nI 4) = h194 at hth hR hrs ⊢
                                                    obtain ⟨hS, ⟨hn8, hn⟩, ⟨hm12, hm⟩, hD, hV, hCs⟩ := id hR
                                                    have hsc : sc x q h194 h194 := sc.rf
                                                    have hE := (hD k_e (by omega)).2
                                                    have Tt4 := (hE.2.2 k3 t4 ht4).1
                                                    refine jv_aload_n (q := 263) G 3 dX8_member_262 rfl rfl rfl ?_
                                                    refine jv_getI (q := 266) G dX8_member_263 fl_X8_122 rfl hS.1 hth rfl ?_
                                                    refine jv_if_leN (q := 269) (tgt := 271) G dX8_member_266 (by decide) rfl (by omega) (fun c195 => ?_) (fun c195 => ?_)
                                                    · omega
                                                    · refine jv_iconst (q := 270) (v := nI 0) G dX8_member_269 (by decide) rfl ?_
                                                      refine jv_iret G hr dX8_member_270 (Nat.le_of_ble_eq_true rfl) (Nat.le_of_ble_eq_true rfl) ?_
                                                      refine pO.no (M := M) hS0 ?_ rfl hth hR hrs
                                                      unfold m_mb; rw [m_opT_yes zke hse (by assumption) ht4]; unfold m_mbG
                                                      simp only [*, nI_21, nI_12, nI_102, eq_self,  if_true, if_false, Bool.false_eq_true, reduceIte, Bool.and_true, Bool.and_false, Bool.true_and, Bool.false_and, Bool.not_true, Bool.not_false, Bool.true_or, Bool.or_true, Bool.false_or, Option.isNone_some, Option.isNone_none, decide_true, decide_false]
                                                · omega
                                            · refine jv_topI (y := nI (6 * (10 * k_e + k3) + j176)) (by rw [hj178]; rfl) ?_
                                              obtain ⟨m177, hm177, wm177, nm177, sm177, lm177⟩ := m_own_some hj178
                                              have Mm177 := rt_m Tt4 hm177
                                              have Om177 := Ot4.2.2.2.2.2.2 m177 (List.mem_of_getElem? hm177)
                                              have Lm177 := Ot4.2.2.2.2.2.1
                                              have Bm177n := Om177.1; have Bm177s := Om177.2.1; have Bm177a := Om177.2.2.1
                                              refine jv_iconst (q := 222) (v := (-1)) G dX8_member_221 (by decide) rfl ?_
                                              refine jv_icmp_ne (q := 225) (tgt := 229) G dX8_member_222 (by decide) rfl (fun c196 => ?_) (fun c196 => ?_)
                                              · refine jv_iconst (q := 230) (v := nI 0) G dX8_member_229 (by decide) rfl ?_
                                                refine jv_istore (q := 232) (lo' := [(11, .int (nI 0)), (10, .int (nI 0)), (9, .int (nI (10 * k_e + k3))), (0, .ref x), (1, .int (nI k_e)), (2, .int n), (3, .int (nI 2)), (4, .int o), (5, .int s), (6, .int (nI 3)), (7, .int (jv_bI true)), (8, .int b)]) G dX8_member_230 (by decide) rfl rfl ?_
                                                refine jv_aload_n (q := 233) G 3 dX8_member_232 rfl rfl rfl ?_
                                                refine jv_iload (q := 235) G 0 dX8_member_233 rfl rfl ?_
                                                refine jv_if_neN (q := 238) (tgt := 242) G dX8_member_235 (by decide) rfl (by omega) (fun c197 => ?_) (fun c197 => ?_)
                                                · omega
                                                · refine jv_iconst (q := 239) (v := nI 3) G dX8_member_238 (by decide) rfl ?_
                                                  refine jv_goto (q := 259) G dX8_member_239 (by decide) ?_
                                                  refine jv_putI (q := 262) G dX8_member_259 fl_X8_122 rfl hS.1 rfl ?_
                                                  have hr1 : rs x q h1 (jv_wI h1 x 0 (nI 3)) := rs.rf.wI (nI 3) (Or.inl ⟨rfl, Or.inl rfl⟩)
                                                  have hth : jv_I (jv_wI h1 x 0 (nI 3)) x 0 = (nI 3) := jv_I_self _ _ _ _
                                                  have hR := hr1.R hR
                                                  have hrs := hrs.tr hr1
                                                  generalize jv_wI h1 x 0 (nI 3) = h198 at hth hR hrs ⊢
                                                  obtain ⟨hS, ⟨hn8, hn⟩, ⟨hm12, hm⟩, hD, hV, hCs⟩ := id hR
                                                  have hsc : sc x q h198 h198 := sc.rf
                                                  have hE := (hD k_e (by omega)).2
                                                  have Tt4 := (hE.2.2 k3 t4 ht4).1
                                                  refine jv_aload_n (q := 263) G 3 dX8_member_262 rfl rfl rfl ?_
                                                  refine jv_getI (q := 266) G dX8_member_263 fl_X8_122 rfl hS.1 hth rfl ?_
                                                  refine jv_if_leN (q := 269) (tgt := 271) G dX8_member_266 (by decide) rfl (by omega) (fun c199 => ?_) (fun c199 => ?_)
                                                  · omega
                                                  · refine jv_iconst (q := 270) (v := nI 0) G dX8_member_269 (by decide) rfl ?_
                                                    refine jv_iret G hr dX8_member_270 (Nat.le_of_ble_eq_true rfl) (Nat.le_of_ble_eq_true rfl) ?_
                                                    refine pO.no (M := M) hS0 ?_ rfl hth hR hrs
                                                    unfold m_mb; rw [m_opT_yes zke hse (by assumption) ht4]; unfold m_mbG
                                                    simp only [*, nI_21, nI_12, nI_102, eq_self,  if_true, if_false, Bool.false_eq_true, reduceIte, Bool.and_true, Bool.and_false, Bool.true_and, Bool.false_and, Bool.not_true, Bool.not_false, Bool.true_or, Bool.or_true, Bool.false_or, Option.isNone_some, Option.isNone_none, decide_true, decide_false]
                                              · exact absurd c196 (jv_nI_m1 (by omega))
                                          · omega
                        · omega
                  · omega
      · subst c23
        refine jv_iconst (q := 32) (v := nI 1) G dX8_member_31 (by decide) rfl ?_
        refine jv_goto (q := 36) G dX8_member_32 (by decide) ?_
        refine jv_istore (q := 38) (lo' := [(10, .int (nI 1)), (9, .int (nI (10 * k_e + k3))), (0, .ref x), (1, .int (nI k_e)), (2, .int n), (3, .int (nI 1)), (4, .int o), (5, .int s), (6, .int a), (7, .int (jv_bI st)), (8, .int b)]) G dX8_member_36 (by decide) rfl rfl ?_
        have hl6 := Ot4.2.2.2.2.2.1
        refine jv_iload (q := 40) G 1 dX8_member_38 rfl rfl ?_
        refine jv_iconst (q := 41) (v := (-1)) G dX8_member_40 (by decide) rfl ?_
        refine jv_icmp_eq (q := 44) (tgt := 108) G dX8_member_41 (by decide) rfl (fun c200 => ?_) (fun c200 => ?_)
        · exact absurd c200 (jv_nI_m1 (by omega))
        · refine jv_iload_n (q := 45) G 5 dX8_member_44 rfl rfl rfl ?_
          refine jv_iconst (q := 46) (v := nI 0) G dX8_member_45 (by decide) rfl ?_
          refine jv_iconst (q := 47) (v := nI 2) G dX8_member_46 (by decide) rfl ?_
          refine jv_callS_I (q := 50) (h1 := h1) (As := [.int (nI 1), .int (nI 0), .int (nI 2)]) (rest := []) (ce' := 0) (sl' := 0) (r := jv_bI (rr_in (nI 1) (nI 0) (nI 2))) G Z ml_X8_147 (r_isIn hlt) dX8_member_47 rfl (by decide) (by decide) (by decide) (by decide) (Nat.le_of_ble_eq_true rfl) rfl rfl rfl rfl ?_
          refine jv_topI (y := jv_bI true) (by decide) ?_
          refine jv_if_eqB (q := 53) (tgt := 108) G dX8_member_50 (by decide) rfl (fun c201 => ?_) (fun c201 => ?_)
          · cases c201
          · refine jv_iload (q := 55) G 6 dX8_member_53 rfl rfl ?_
            refine jv_iconst (q := 56) (v := nI 0) G dX8_member_55 (by decide) rfl ?_
            refine jv_bipush (q := 58) (v := nI 15) G dX8_member_56 (by decide) rfl ?_
            refine jv_callS_I (q := 61) (h1 := h1) (As := [.int o, .int (nI 0), .int (nI 15)]) (rest := []) (ce' := 0) (sl' := 0) (r := jv_bI (rr_in o (nI 0) (nI 15))) G Z ml_X8_147 (r_isIn hlt) dX8_member_58 rfl (by decide) (by decide) (by decide) (by decide) (Nat.le_of_ble_eq_true rfl) rfl rfl rfl rfl ?_
            refine jv_if_eqB (q := 64) (tgt := 108) G dX8_member_61 (by decide) rfl (fun c202 => ?_) (fun c202 => ?_)
            · refine jv_iconst (q := 109) (v := nI 0) G dX8_member_108 (by decide) rfl ?_
              refine jv_istore (q := 111) (lo' := [(11, .int (nI 0)), (10, .int (nI 1)), (9, .int (nI (10 * k_e + k3))), (0, .ref x), (1, .int (nI k_e)), (2, .int n), (3, .int (nI 1)), (4, .int o), (5, .int s), (6, .int a), (7, .int (jv_bI st)), (8, .int b)]) G dX8_member_109 (by decide) rfl rfl ?_
              refine jv_iload (q := 113) G 0 dX8_member_111 rfl rfl ?_
              refine jv_if_eqN (q := 116) (tgt := 144) G dX8_member_113 (by decide) rfl (by omega) (fun c203 => ?_) (fun c203 => ?_)
              · refine jv_iload (q := 146) G 0 dX8_member_144 rfl rfl ?_
                refine jv_if_eqN (q := 149) (tgt := 158) G dX8_member_146 (by decide) rfl (by omega) (fun c204 => ?_) (fun c204 => ?_)
                · refine jv_iload (q := 160) G 0 dX8_member_158 rfl rfl ?_
                  refine jv_if_eqN (q := 163) (tgt := 196) G dX8_member_160 (by decide) rfl (by omega) (fun c205 => ?_) (fun c205 => ?_)
                  · refine jv_iload (q := 198) G 0 dX8_member_196 rfl rfl ?_
                    refine jv_if_eqN (q := 201) (tgt := 232) G dX8_member_198 (by decide) rfl (by omega) (fun c206 => ?_) (fun c206 => ?_)
                    · refine jv_aload_n (q := 233) G 3 dX8_member_232 rfl rfl rfl ?_
                      refine jv_iload (q := 235) G 0 dX8_member_233 rfl rfl ?_
                      refine jv_if_neN (q := 238) (tgt := 242) G dX8_member_235 (by decide) rfl (by omega) (fun c207 => ?_) (fun c207 => ?_)
                      · omega
                      · refine jv_iconst (q := 239) (v := nI 3) G dX8_member_238 (by decide) rfl ?_
                        refine jv_goto (q := 259) G dX8_member_239 (by decide) ?_
                        refine jv_putI (q := 262) G dX8_member_259 fl_X8_122 rfl hS.1 rfl ?_
                        have hr1 : rs x q h1 (jv_wI h1 x 0 (nI 3)) := rs.rf.wI (nI 3) (Or.inl ⟨rfl, Or.inl rfl⟩)
                        have hth : jv_I (jv_wI h1 x 0 (nI 3)) x 0 = (nI 3) := jv_I_self _ _ _ _
                        have hR := hr1.R hR
                        have hrs := hrs.tr hr1
                        generalize jv_wI h1 x 0 (nI 3) = h208 at hth hR hrs ⊢
                        obtain ⟨hS, ⟨hn8, hn⟩, ⟨hm12, hm⟩, hD, hV, hCs⟩ := id hR
                        have hsc : sc x q h208 h208 := sc.rf
                        have hE := (hD k_e (by omega)).2
                        have Tt4 := (hE.2.2 k3 t4 ht4).1
                        refine jv_aload_n (q := 263) G 3 dX8_member_262 rfl rfl rfl ?_
                        refine jv_getI (q := 266) G dX8_member_263 fl_X8_122 rfl hS.1 hth rfl ?_
                        refine jv_if_leN (q := 269) (tgt := 271) G dX8_member_266 (by decide) rfl (by omega) (fun c209 => ?_) (fun c209 => ?_)
                        · omega
                        · refine jv_iconst (q := 270) (v := nI 0) G dX8_member_269 (by decide) rfl ?_
                          refine jv_iret G hr dX8_member_270 (Nat.le_of_ble_eq_true rfl) (Nat.le_of_ble_eq_true rfl) ?_
                          refine pO.no (M := M) hS0 ?_ rfl hth hR hrs
                          unfold m_mb; rw [m_opT_yes zke hse (by assumption) ht4]; unfold m_mbG
                          simp only [*, nI_21, nI_12, nI_102, eq_self,  if_true, if_false, Bool.false_eq_true, reduceIte, Bool.and_true, Bool.and_false, Bool.true_and, Bool.false_and, Bool.not_true, Bool.not_false, Bool.true_or, Bool.or_true, Bool.false_or, Option.isNone_some, Option.isNone_none, decide_true, decide_false]
                    · omega
                  · omega
                · omega
              · omega
            · refine jv_iload (q := 66) G 7 dX8_member_64 rfl rfl ?_
              refine jv_iconst (q := 67) (v := nI 0) G dX8_member_66 (by decide) rfl ?_
              refine jv_iconst (q := 68) (v := nI 3) G dX8_member_67 (by decide) rfl ?_
              refine jv_callS_I (q := 71) (h1 := h1) (As := [.int s, .int (nI 0), .int (nI 3)]) (rest := []) (ce' := 0) (sl' := 0) (r := jv_bI (rr_in s (nI 0) (nI 3))) G Z ml_X8_147 (r_isIn hlt) dX8_member_68 rfl (by decide) (by decide) (by decide) (by decide) (Nat.le_of_ble_eq_true rfl) rfl rfl rfl rfl ?_
              refine jv_if_eqB (q := 74) (tgt := 108) G dX8_member_71 (by decide) rfl (fun c210 => ?_) (fun c210 => ?_)
              · refine jv_iconst (q := 109) (v := nI 0) G dX8_member_108 (by decide) rfl ?_
                refine jv_istore (q := 111) (lo' := [(11, .int (nI 0)), (10, .int (nI 1)), (9, .int (nI (10 * k_e + k3))), (0, .ref x), (1, .int (nI k_e)), (2, .int n), (3, .int (nI 1)), (4, .int o), (5, .int s), (6, .int a), (7, .int (jv_bI st)), (8, .int b)]) G dX8_member_109 (by decide) rfl rfl ?_
                refine jv_iload (q := 113) G 0 dX8_member_111 rfl rfl ?_
                refine jv_if_eqN (q := 116) (tgt := 144) G dX8_member_113 (by decide) rfl (by omega) (fun c211 => ?_) (fun c211 => ?_)
                · refine jv_iload (q := 146) G 0 dX8_member_144 rfl rfl ?_
                  refine jv_if_eqN (q := 149) (tgt := 158) G dX8_member_146 (by decide) rfl (by omega) (fun c212 => ?_) (fun c212 => ?_)
                  · refine jv_iload (q := 160) G 0 dX8_member_158 rfl rfl ?_
                    refine jv_if_eqN (q := 163) (tgt := 196) G dX8_member_160 (by decide) rfl (by omega) (fun c213 => ?_) (fun c213 => ?_)
                    · refine jv_iload (q := 198) G 0 dX8_member_196 rfl rfl ?_
                      refine jv_if_eqN (q := 201) (tgt := 232) G dX8_member_198 (by decide) rfl (by omega) (fun c214 => ?_) (fun c214 => ?_)
                      · refine jv_aload_n (q := 233) G 3 dX8_member_232 rfl rfl rfl ?_
                        refine jv_iload (q := 235) G 0 dX8_member_233 rfl rfl ?_
                        refine jv_if_neN (q := 238) (tgt := 242) G dX8_member_235 (by decide) rfl (by omega) (fun c215 => ?_) (fun c215 => ?_)
                        · omega
                        · refine jv_iconst (q := 239) (v := nI 3) G dX8_member_238 (by decide) rfl ?_
                          refine jv_goto (q := 259) G dX8_member_239 (by decide) ?_
                          refine jv_putI (q := 262) G dX8_member_259 fl_X8_122 rfl hS.1 rfl ?_
                          have hr1 : rs x q h1 (jv_wI h1 x 0 (nI 3)) := rs.rf.wI (nI 3) (Or.inl ⟨rfl, Or.inl rfl⟩)
                          have hth : jv_I (jv_wI h1 x 0 (nI 3)) x 0 = (nI 3) := jv_I_self _ _ _ _
                          have hR := hr1.R hR
                          have hrs := hrs.tr hr1
                          generalize jv_wI h1 x 0 (nI 3) = h216 at hth hR hrs ⊢
                          obtain ⟨hS, ⟨hn8, hn⟩, ⟨hm12, hm⟩, hD, hV, hCs⟩ := id hR
                          have hsc : sc x q h216 h216 := sc.rf
                          have hE := (hD k_e (by omega)).2
                          have Tt4 := (hE.2.2 k3 t4 ht4).1
                          refine jv_aload_n (q := 263) G 3 dX8_member_262 rfl rfl rfl ?_
                          refine jv_getI (q := 266) G dX8_member_263 fl_X8_122 rfl hS.1 hth rfl ?_
                          refine jv_if_leN (q := 269) (tgt := 271) G dX8_member_266 (by decide) rfl (by omega) (fun c217 => ?_) (fun c217 => ?_)
                          · omega
                          · refine jv_iconst (q := 270) (v := nI 0) G dX8_member_269 (by decide) rfl ?_
                            refine jv_iret G hr dX8_member_270 (Nat.le_of_ble_eq_true rfl) (Nat.le_of_ble_eq_true rfl) ?_
                            refine pO.no (M := M) hS0 ?_ rfl hth hR hrs
                            unfold m_mb; rw [m_opT_yes zke hse (by assumption) ht4]; unfold m_mbG
                            simp only [*, nI_21, nI_12, nI_102, eq_self,  if_true, if_false, Bool.false_eq_true, reduceIte, Bool.and_true, Bool.and_false, Bool.true_and, Bool.false_and, Bool.not_true, Bool.not_false, Bool.true_or, Bool.or_true, Bool.false_or, Option.isNone_some, Option.isNone_none, decide_true, decide_false]
                      · omega
                    · omega
                  · omega
                · omega
              · refine jv_iload (q := 76) G 8 dX8_member_74 rfl rfl ?_
                refine jv_iconst (q := 77) (v := nI 0) G dX8_member_76 (by decide) rfl ?_
                refine jv_iconst (q := 78) (v := nI 3) G dX8_member_77 (by decide) rfl ?_
                refine jv_callS_I (q := 81) (h1 := h1) (As := [.int a, .int (nI 0), .int (nI 3)]) (rest := []) (ce' := 0) (sl' := 0) (r := jv_bI (rr_in a (nI 0) (nI 3))) G Z ml_X8_147 (r_isIn hlt) dX8_member_78 rfl (by decide) (by decide) (by decide) (by decide) (Nat.le_of_ble_eq_true rfl) rfl rfl rfl rfl ?_
                refine jv_if_eqB (q := 84) (tgt := 108) G dX8_member_81 (by decide) rfl (fun c218 => ?_) (fun c218 => ?_)
                · refine jv_iconst (q := 109) (v := nI 0) G dX8_member_108 (by decide) rfl ?_
                  refine jv_istore (q := 111) (lo' := [(11, .int (nI 0)), (10, .int (nI 1)), (9, .int (nI (10 * k_e + k3))), (0, .ref x), (1, .int (nI k_e)), (2, .int n), (3, .int (nI 1)), (4, .int o), (5, .int s), (6, .int a), (7, .int (jv_bI st)), (8, .int b)]) G dX8_member_109 (by decide) rfl rfl ?_
                  refine jv_iload (q := 113) G 0 dX8_member_111 rfl rfl ?_
                  refine jv_if_eqN (q := 116) (tgt := 144) G dX8_member_113 (by decide) rfl (by omega) (fun c219 => ?_) (fun c219 => ?_)
                  · refine jv_iload (q := 146) G 0 dX8_member_144 rfl rfl ?_
                    refine jv_if_eqN (q := 149) (tgt := 158) G dX8_member_146 (by decide) rfl (by omega) (fun c220 => ?_) (fun c220 => ?_)
                    · refine jv_iload (q := 160) G 0 dX8_member_158 rfl rfl ?_
                      refine jv_if_eqN (q := 163) (tgt := 196) G dX8_member_160 (by decide) rfl (by omega) (fun c221 => ?_) (fun c221 => ?_)
                      · refine jv_iload (q := 198) G 0 dX8_member_196 rfl rfl ?_
                        refine jv_if_eqN (q := 201) (tgt := 232) G dX8_member_198 (by decide) rfl (by omega) (fun c222 => ?_) (fun c222 => ?_)
                        · refine jv_aload_n (q := 233) G 3 dX8_member_232 rfl rfl rfl ?_
                          refine jv_iload (q := 235) G 0 dX8_member_233 rfl rfl ?_
                          refine jv_if_neN (q := 238) (tgt := 242) G dX8_member_235 (by decide) rfl (by omega) (fun c223 => ?_) (fun c223 => ?_)
                          · omega
                          · refine jv_iconst (q := 239) (v := nI 3) G dX8_member_238 (by decide) rfl ?_
                            refine jv_goto (q := 259) G dX8_member_239 (by decide) ?_
                            refine jv_putI (q := 262) G dX8_member_259 fl_X8_122 rfl hS.1 rfl ?_
                            have hr1 : rs x q h1 (jv_wI h1 x 0 (nI 3)) := rs.rf.wI (nI 3) (Or.inl ⟨rfl, Or.inl rfl⟩)
                            have hth : jv_I (jv_wI h1 x 0 (nI 3)) x 0 = (nI 3) := jv_I_self _ _ _ _
                            have hR := hr1.R hR
                            have hrs := hrs.tr hr1
                            generalize jv_wI h1 x 0 (nI 3) = h224 at hth hR hrs ⊢
                            obtain ⟨hS, ⟨hn8, hn⟩, ⟨hm12, hm⟩, hD, hV, hCs⟩ := id hR
                            have hsc : sc x q h224 h224 := sc.rf
                            have hE := (hD k_e (by omega)).2
                            have Tt4 := (hE.2.2 k3 t4 ht4).1
                            refine jv_aload_n (q := 263) G 3 dX8_member_262 rfl rfl rfl ?_
                            refine jv_getI (q := 266) G dX8_member_263 fl_X8_122 rfl hS.1 hth rfl ?_
                            refine jv_if_leN (q := 269) (tgt := 271) G dX8_member_266 (by decide) rfl (by omega) (fun c225 => ?_) (fun c225 => ?_)
                            · omega
                            · refine jv_iconst (q := 270) (v := nI 0) G dX8_member_269 (by decide) rfl ?_
                              refine jv_iret G hr dX8_member_270 (Nat.le_of_ble_eq_true rfl) (Nat.le_of_ble_eq_true rfl) ?_
                              refine pO.no (M := M) hS0 ?_ rfl hth hR hrs
                              unfold m_mb; rw [m_opT_yes zke hse (by assumption) ht4]; unfold m_mbG
                              simp only [*, nI_21, nI_12, nI_102, eq_self,  if_true, if_false, Bool.false_eq_true, reduceIte, Bool.and_true, Bool.and_false, Bool.true_and, Bool.false_and, Bool.not_true, Bool.not_false, Bool.true_or, Bool.or_true, Bool.false_or, Option.isNone_some, Option.isNone_none, decide_true, decide_false]
                        · omega
                      · omega
                    · omega
                  · omega
                · refine jv_iload (q := 86) G 10 dX8_member_84 rfl rfl ?_
                  refine jv_iload (q := 88) G 0 dX8_member_86 rfl rfl ?_
                  refine jv_if_eqN (q := 91) (tgt := 95) G dX8_member_88 (by decide) rfl (by omega) (fun c226 => ?_) (fun c226 => ?_)
                  · omega
                  · refine jv_iconst (q := 92) (v := (-1)) G dX8_member_91 (by decide) rfl ?_
                    refine jv_goto (q := 96) G dX8_member_92 (by decide) ?_
                    refine jv_bipush (q := 98) (v := nI 9) G dX8_member_96 (by decide) rfl ?_
                    refine jv_callS_I (q := 101) (h1 := h1) (As := [.int b, .int (-1), .int (nI 9)]) (rest := []) (ce' := 0) (sl' := 0) (r := jv_bI (rr_in b (-1) (nI 9))) G Z ml_X8_147 (r_isIn hlt) dX8_member_98 rfl (by decide) (by decide) (by decide) (by decide) (Nat.le_of_ble_eq_true rfl) rfl rfl rfl rfl ?_
                    refine jv_if_eqB (q := 104) (tgt := 108) G dX8_member_101 (by decide) rfl (fun c227 => ?_) (fun c227 => ?_)
                    · refine jv_iconst (q := 109) (v := nI 0) G dX8_member_108 (by decide) rfl ?_
                      refine jv_istore (q := 111) (lo' := [(11, .int (nI 0)), (10, .int (nI 1)), (9, .int (nI (10 * k_e + k3))), (0, .ref x), (1, .int (nI k_e)), (2, .int n), (3, .int (nI 1)), (4, .int o), (5, .int s), (6, .int a), (7, .int (jv_bI st)), (8, .int b)]) G dX8_member_109 (by decide) rfl rfl ?_
                      refine jv_iload (q := 113) G 0 dX8_member_111 rfl rfl ?_
                      refine jv_if_eqN (q := 116) (tgt := 144) G dX8_member_113 (by decide) rfl (by omega) (fun c228 => ?_) (fun c228 => ?_)
                      · refine jv_iload (q := 146) G 0 dX8_member_144 rfl rfl ?_
                        refine jv_if_eqN (q := 149) (tgt := 158) G dX8_member_146 (by decide) rfl (by omega) (fun c229 => ?_) (fun c229 => ?_)
                        · refine jv_iload (q := 160) G 0 dX8_member_158 rfl rfl ?_
                          refine jv_if_eqN (q := 163) (tgt := 196) G dX8_member_160 (by decide) rfl (by omega) (fun c230 => ?_) (fun c230 => ?_)
                          · refine jv_iload (q := 198) G 0 dX8_member_196 rfl rfl ?_
                            refine jv_if_eqN (q := 201) (tgt := 232) G dX8_member_198 (by decide) rfl (by omega) (fun c231 => ?_) (fun c231 => ?_)
                            · refine jv_aload_n (q := 233) G 3 dX8_member_232 rfl rfl rfl ?_
                              refine jv_iload (q := 235) G 0 dX8_member_233 rfl rfl ?_
                              refine jv_if_neN (q := 238) (tgt := 242) G dX8_member_235 (by decide) rfl (by omega) (fun c232 => ?_) (fun c232 => ?_)
                              · omega
                              · refine jv_iconst (q := 239) (v := nI 3) G dX8_member_238 (by decide) rfl ?_
                                refine jv_goto (q := 259) G dX8_member_239 (by decide) ?_
                                refine jv_putI (q := 262) G dX8_member_259 fl_X8_122 rfl hS.1 rfl ?_
                                have hr1 : rs x q h1 (jv_wI h1 x 0 (nI 3)) := rs.rf.wI (nI 3) (Or.inl ⟨rfl, Or.inl rfl⟩)
                                have hth : jv_I (jv_wI h1 x 0 (nI 3)) x 0 = (nI 3) := jv_I_self _ _ _ _
                                have hR := hr1.R hR
                                have hrs := hrs.tr hr1
                                generalize jv_wI h1 x 0 (nI 3) = h233 at hth hR hrs ⊢
                                obtain ⟨hS, ⟨hn8, hn⟩, ⟨hm12, hm⟩, hD, hV, hCs⟩ := id hR
                                have hsc : sc x q h233 h233 := sc.rf
                                have hE := (hD k_e (by omega)).2
                                have Tt4 := (hE.2.2 k3 t4 ht4).1
                                refine jv_aload_n (q := 263) G 3 dX8_member_262 rfl rfl rfl ?_
                                refine jv_getI (q := 266) G dX8_member_263 fl_X8_122 rfl hS.1 hth rfl ?_
                                refine jv_if_leN (q := 269) (tgt := 271) G dX8_member_266 (by decide) rfl (by omega) (fun c234 => ?_) (fun c234 => ?_)
                                · omega
                                · refine jv_iconst (q := 270) (v := nI 0) G dX8_member_269 (by decide) rfl ?_
                                  refine jv_iret G hr dX8_member_270 (Nat.le_of_ble_eq_true rfl) (Nat.le_of_ble_eq_true rfl) ?_
                                  refine pO.no (M := M) hS0 ?_ rfl hth hR hrs
                                  unfold m_mb; rw [m_opT_yes zke hse (by assumption) ht4]; unfold m_mbG
                                  simp only [*, nI_21, nI_12, nI_102, eq_self,  if_true, if_false, Bool.false_eq_true, reduceIte, Bool.and_true, Bool.and_false, Bool.true_and, Bool.false_and, Bool.not_true, Bool.not_false, Bool.true_or, Bool.or_true, Bool.false_or, Option.isNone_some, Option.isNone_none, decide_true, decide_false]
                            · omega
                          · omega
                        · omega
                      · omega
                    · refine jv_iconst (q := 105) (v := nI 1) G dX8_member_104 (by decide) rfl ?_
                      refine jv_goto (q := 109) G dX8_member_105 (by decide) ?_
                      refine jv_istore (q := 111) (lo' := [(11, .int (nI 1)), (10, .int (nI 1)), (9, .int (nI (10 * k_e + k3))), (0, .ref x), (1, .int (nI k_e)), (2, .int n), (3, .int (nI 1)), (4, .int o), (5, .int s), (6, .int a), (7, .int (jv_bI st)), (8, .int b)]) G dX8_member_109 (by decide) rfl rfl ?_
                      refine jv_iload (q := 113) G 0 dX8_member_111 rfl rfl ?_
                      refine jv_if_eqN (q := 116) (tgt := 144) G dX8_member_113 (by decide) rfl (by omega) (fun c235 => ?_) (fun c235 => ?_)
                      · omega
                      · refine jv_iload (q := 118) G 1 dX8_member_116 rfl rfl ?_
                        refine jv_if_eqN (q := 121) (tgt := 144) G dX8_member_118 (by decide) rfl (by omega) (fun c236 => ?_) (fun c236 => ?_)
                        · omega
                        · refine jv_iload (q := 123) G 11 dX8_member_121 rfl rfl ?_
                          refine jv_iconst (q := 124) (v := (-1)) G dX8_member_123 (by decide) rfl ?_
                          refine jv_icmp_ne (q := 127) (tgt := 144) G dX8_member_124 (by decide) rfl (fun c237 => ?_) (fun c237 => ?_)
                          · refine jv_iload (q := 146) G 0 dX8_member_144 rfl rfl ?_
                            refine jv_if_eqN (q := 149) (tgt := 158) G dX8_member_146 (by decide) rfl (by omega) (fun c238 => ?_) (fun c238 => ?_)
                            · omega
                            · refine jv_iload_n (q := 150) G 6 dX8_member_149 rfl rfl rfl ?_
                              refine jv_iconst (q := 151) (v := nI 2) G dX8_member_150 (by decide) rfl ?_
                              refine jv_icmp_neN (q := 154) (tgt := 158) G dX8_member_151 (by decide) rfl (by omega) (by omega) (fun c239 => ?_) (fun c239 => ?_)
                              · refine jv_iload (q := 160) G 0 dX8_member_158 rfl rfl ?_
                                refine jv_if_eqN (q := 163) (tgt := 196) G dX8_member_160 (by decide) rfl (by omega) (fun c240 => ?_) (fun c240 => ?_)
                                · omega
                                · refine jv_aload_n (q := 164) G 3 dX8_member_163 rfl rfl rfl ?_
                                  refine jv_getQ (q := 167) G dX8_member_164 fl_X8_20 rfl hS.1 (rf_p5 hS) rfl ?_
                                  refine jv_iload (q := 169) G 2 dX8_member_167 rfl rfl ?_
                                  refine jv_zald (q := 170) G dX8_member_169 (rf_a5 hS) rfl (by omega) (by decide) (rt_5 (hsc.T hS Tt4)) rfl ?_
                                  refine jv_if_eqB (q := 173) (tgt := 196) G dX8_member_170 (by decide) rfl (fun c241 => ?_) (fun c241 => ?_)
                                  · refine jv_iload (q := 198) G 0 dX8_member_196 rfl rfl ?_
                                    refine jv_if_eqN (q := 201) (tgt := 232) G dX8_member_198 (by decide) rfl (by omega) (fun c242 => ?_) (fun c242 => ?_)
                                    · omega
                                    · refine jv_aload_n (q := 202) G 3 dX8_member_201 rfl rfl rfl ?_
                                      refine jv_iload (q := 204) G 2 dX8_member_202 rfl rfl ?_
                                      refine jv_iload (q := 206) G 1 dX8_member_204 rfl rfl ?_
                                      refine jv_if_eqN (q := 209) (tgt := 213) G dX8_member_206 (by decide) rfl (by omega) (fun c243 => ?_) (fun c243 => ?_)
                                      · omega
                                      · refine jv_iconst (q := 210) (v := nI 1) G dX8_member_209 (by decide) rfl ?_
                                        refine jv_goto (q := 214) G dX8_member_210 (by decide) ?_
                                        refine jv_iload (q := 216) G 7 dX8_member_214 rfl rfl ?_
                                        refine jv_iload (q := 218) G 8 dX8_member_216 rfl rfl ?_
                                        refine jv_callV_I (q := 221) (h1 := h1) (As := [.int (nI (10 * k_e + k3)), .int (nI 1), .int o, .int s]) (rest := []) (ce' := 0) (sl' := 0) (r := jv_oN ((m_own t4 (nI 1) o s).map (fun j => 6 * (10 * k_e + k3) + j))) G Z ml_X8_155 (r_own hlt (hsc.S hS) (by omega) (hsc.T hS Tt4) Ot4) hS.1 dX8_member_218 rfl (by decide) (by decide) (by decide) (by decide) (Nat.le_of_ble_eq_true rfl) rfl rfl rfl rfl ?_
                                        rcases Option.eq_none_or_eq_some (m_own t4 (nI 1) o s) with hj246 | ⟨j244, hj246⟩
                                        · refine jv_topI (y := (-1)) (by rw [hj246]; rfl) ?_
                                          refine jv_iconst (q := 222) (v := (-1)) G dX8_member_221 (by decide) rfl ?_
                                          refine jv_icmp_ne (q := 225) (tgt := 229) G dX8_member_222 (by decide) rfl (fun c247 => ?_) (fun c247 => ?_)
                                          · exact absurd rfl c247
                                          · refine jv_iconst (q := 226) (v := nI 1) G dX8_member_225 (by decide) rfl ?_
                                            refine jv_goto (q := 230) G dX8_member_226 (by decide) ?_
                                            refine jv_istore (q := 232) (lo' := [(11, .int (nI 1)), (10, .int (nI 1)), (9, .int (nI (10 * k_e + k3))), (0, .ref x), (1, .int (nI k_e)), (2, .int n), (3, .int (nI 1)), (4, .int o), (5, .int s), (6, .int a), (7, .int (jv_bI st)), (8, .int b)]) G dX8_member_230 (by decide) rfl rfl ?_
                                            refine jv_aload_n (q := 233) G 3 dX8_member_232 rfl rfl rfl ?_
                                            refine jv_iload (q := 235) G 0 dX8_member_233 rfl rfl ?_
                                            refine jv_if_neN (q := 238) (tgt := 242) G dX8_member_235 (by decide) rfl (by omega) (fun c248 => ?_) (fun c248 => ?_)
                                            · refine jv_aload_n (q := 243) G 3 dX8_member_242 rfl rfl rfl ?_
                                              refine jv_getQ (q := 246) G dX8_member_243 fl_X8_41 rfl hS.1 (rf_p12 hS) rfl ?_
                                              refine jv_iload (q := 248) G 2 dX8_member_246 rfl rfl ?_
                                              refine jv_iald (q := 249) G dX8_member_248 (rf_a12 hS) rfl (by omega) (by decide) (rt_12 (hsc.T hS Tt4)) rfl ?_
                                              refine jv_bipush (q := 251) (v := nI 6) G dX8_member_249 (by decide) rfl ?_
                                              refine jv_icmp_neN (q := 254) (tgt := 258) G dX8_member_251 (by decide) rfl (by omega) (by omega) (fun c249 => ?_) (fun c249 => ?_)
                                              · refine jv_iconst (q := 259) (v := nI 0) G dX8_member_258 (by decide) rfl ?_
                                                refine jv_putI (q := 262) G dX8_member_259 fl_X8_122 rfl hS.1 rfl ?_
                                                have hr1 : rs x q h1 (jv_wI h1 x 0 (nI 0)) := rs.rf.wI (nI 0) (Or.inl ⟨rfl, Or.inl rfl⟩)
                                                have hth : jv_I (jv_wI h1 x 0 (nI 0)) x 0 = (nI 0) := jv_I_self _ _ _ _
                                                have hR := hr1.R hR
                                                have hrs := hrs.tr hr1
                                                generalize jv_wI h1 x 0 (nI 0) = h250 at hth hR hrs ⊢
                                                obtain ⟨hS, ⟨hn8, hn⟩, ⟨hm12, hm⟩, hD, hV, hCs⟩ := id hR
                                                have hsc : sc x q h250 h250 := sc.rf
                                                have hE := (hD k_e (by omega)).2
                                                have Tt4 := (hE.2.2 k3 t4 ht4).1
                                                refine jv_aload_n (q := 263) G 3 dX8_member_262 rfl rfl rfl ?_
                                                refine jv_getI (q := 266) G dX8_member_263 fl_X8_122 rfl hS.1 hth rfl ?_
                                                refine jv_if_leN (q := 269) (tgt := 271) G dX8_member_266 (by decide) rfl (by omega) (fun c251 => ?_) (fun c251 => ?_)
                                                · have c2 : jv_I h250 (q 2) k_e = jv_bI false := (hD k_e (by omega)).1.trans (by rw [hse])
                                                  have c12 := rt_12 Tt4
                                                  have hl6 := Ot4.2.2.2.2.2.1
                                                  have hF : FW (fun k j => (k = 12 ∧ j = 10 * k_e + k3) ∨ (k_m k ∧ j = 6 * (10 * k_e + k3) + (mt_m t4).length)) xcr x q h250 h250 := FW.rf
                                                  have hSn := hS
                                                  refine jv_bipush (q := 273) (v := nI 6) G dX8_member_271 (by decide) rfl ?_
                                                  refine jv_iload (q := 275) G 2 dX8_member_273 rfl rfl ?_
                                                  refine jv_imulN (q := 276) G dX8_member_275 rfl ?_
                                                  refine jv_aload_n (q := 277) G 3 dX8_member_276 rfl rfl rfl ?_
                                                  refine jv_getQ (q := 280) G dX8_member_277 fl_X8_41 rfl hS.1 (rf_p12 hS) rfl ?_
                                                  refine jv_iload (q := 282) G 2 dX8_member_280 rfl rfl ?_
                                                  refine jv_iald (q := 283) G dX8_member_282 (rf_a12 hS) rfl (by omega) (by decide) (rt_12 (hsc.T hS Tt4)) rfl ?_
                                                  refine jv_iaddN (q := 284) G dX8_member_283 rfl ?_
                                                  refine jv_istore (q := 286) (lo' := [(12, .int (nI ((6 * (10 * k_e + k3)) + ((mt_m t4).length)))), (11, .int (nI 1)), (10, .int (nI 1)), (9, .int (nI (10 * k_e + k3))), (0, .ref x), (1, .int (nI k_e)), (2, .int n), (3, .int (nI 1)), (4, .int o), (5, .int s), (6, .int a), (7, .int (jv_bI st)), (8, .int b)]) G dX8_member_284 (by decide) rfl rfl ?_
                                                  refine jv_aload_n (q := 287) G 4 dX8_member_286 rfl rfl rfl ?_
                                                  refine jv_getQ (q := 290) G dX8_member_287 fl_X8_41 rfl hS.1 (rf_p12 hS) rfl ?_
                                                  refine jv_iload (q := 292) G 3 dX8_member_290 rfl rfl ?_
                                                  refine jv_dup2 (q := 293) G dX8_member_292 rfl rfl rfl ?_
                                                  refine jv_iald (q := 294) G dX8_member_293 (rf_a12 hS) rfl (by omega) (by decide) (rt_12 (hsc.T hS Tt4)) rfl ?_
                                                  refine jv_iconst (q := 295) (v := nI 1) G dX8_member_294 (by decide) rfl ?_
                                                  refine jv_iaddN (q := 296) G dX8_member_295 rfl ?_
                                                  refine jv_iast (q := 297) G dX8_member_296 (rf_a12 hS) rfl (by omega) (by decide) rfl ?_
                                                  have hF := hF.wq hS (k := 12) (j := 10 * k_e + k3) (by decide) rfl (Or.inl ⟨rfl, rfl⟩) (nI (((mt_m t4).length) + 1))
                                                  have hSn2 := hF.S hS
                                                  have c2 := (qI_q hSn (k := 2) (k' := 12) (h := h250) (by decide) rfl (by decide) rfl (k_e) (10 * k_e + k3) (nI (((mt_m t4).length) + 1))).trans ((if_neg (fun e => absurd e.1 (by decide))).trans c2)
                                                  have hth := (xI_q hSn (k := 12) (h := h250) (by decide) rfl 0 (10 * k_e + k3) (nI (((mt_m t4).length) + 1))).trans hth
                                                  have c_12_252 : jv_I (jv_wI h250 (q 12) (10 * k_e + k3) (nI (((mt_m t4).length) + 1))) (q 12) (10 * k_e + k3) = nI (((mt_m t4).length) + 1) := jv_I_self _ _ _ _
                                                  generalize jv_wI h250 (q 12) (10 * k_e + k3) (nI (((mt_m t4).length) + 1)) = h252 at hF hSn2 c2 hth c_12_252 ⊢
                                                  clear hSn; have hSn := hSn2; clear hSn2
                                                  refine jv_aload_n (q := 298) G 4 dX8_member_297 rfl rfl rfl ?_
                                                  refine jv_getQ (q := 301) G dX8_member_298 fl_X8_44 rfl hSn.1 (rf_p13 hSn) rfl ?_
                                                  refine jv_iload (q := 303) G 0 dX8_member_301 rfl rfl ?_
                                                  refine jv_iload (q := 305) G 2 dX8_member_303 rfl rfl ?_
                                                  refine jv_if_eqN (q := 308) (tgt := 312) G dX8_member_305 (by decide) rfl (by omega) (fun c253 => ?_) (fun c253 => ?_)
                                                  · omega
                                                  · refine jv_iconst (q := 309) (v := nI 1) G dX8_member_308 (by decide) rfl ?_
                                                    refine jv_goto (q := 313) G dX8_member_309 (by decide) ?_
                                                    refine jv_iast (q := 314) G dX8_member_313 (rf_a13 hSn) rfl (by omega) (by decide) rfl ?_
                                                    have hF := hF.wq hS (k := 13) (j := (6 * (10 * k_e + k3)) + ((mt_m t4).length)) (by decide) rfl (Or.inr ⟨by unfold k_m; omega, rfl⟩) (nI 1)
                                                    have hSn2 := hF.S hS
                                                    have c2 := (qI_q hSn (k := 2) (k' := 13) (h := h252) (by decide) rfl (by decide) rfl (k_e) ((6 * (10 * k_e + k3)) + ((mt_m t4).length)) (nI 1)).trans ((if_neg (fun e => absurd e.1 (by decide))).trans c2)
                                                    have c_12_252 := (qI_q hSn (k := 12) (k' := 13) (h := h252) (by decide) rfl (by decide) rfl (10 * k_e + k3) ((6 * (10 * k_e + k3)) + ((mt_m t4).length)) (nI 1)).trans ((if_neg (fun e => absurd e.1 (by decide))).trans c_12_252)
                                                    have hth := (xI_q hSn (k := 13) (h := h252) (by decide) rfl 0 ((6 * (10 * k_e + k3)) + ((mt_m t4).length)) (nI 1)).trans hth
                                                    have c_13_254 : jv_I (jv_wI h252 (q 13) ((6 * (10 * k_e + k3)) + ((mt_m t4).length)) (nI 1)) (q 13) ((6 * (10 * k_e + k3)) + ((mt_m t4).length)) = nI 1 := jv_I_self _ _ _ _
                                                    generalize jv_wI h252 (q 13) ((6 * (10 * k_e + k3)) + ((mt_m t4).length)) (nI 1) = h254 at hF hSn2 c2 c_12_252 hth c_13_254 ⊢
                                                    clear hSn; have hSn := hSn2; clear hSn2
                                                    refine jv_aload_n (q := 315) G 4 dX8_member_314 rfl rfl rfl ?_
                                                    refine jv_getQ (q := 318) G dX8_member_315 fl_X8_47 rfl hSn.1 (rf_p14 hSn) rfl ?_
                                                    refine jv_iload (q := 320) G 0 dX8_member_318 rfl rfl ?_
                                                    refine jv_iload (q := 322) G 8 dX8_member_320 rfl rfl ?_
                                                    refine jv_iast (q := 323) G dX8_member_322 (rf_a14 hSn) rfl (by omega) (by decide) rfl ?_
                                                    have hF := hF.wq hS (k := 14) (j := (6 * (10 * k_e + k3)) + ((mt_m t4).length)) (by decide) rfl (Or.inr ⟨by unfold k_m; omega, rfl⟩) (o)
                                                    have hSn2 := hF.S hS
                                                    have c2 := (qI_q hSn (k := 2) (k' := 14) (h := h254) (by decide) rfl (by decide) rfl (k_e) ((6 * (10 * k_e + k3)) + ((mt_m t4).length)) (o)).trans ((if_neg (fun e => absurd e.1 (by decide))).trans c2)
                                                    have c_12_252 := (qI_q hSn (k := 12) (k' := 14) (h := h254) (by decide) rfl (by decide) rfl (10 * k_e + k3) ((6 * (10 * k_e + k3)) + ((mt_m t4).length)) (o)).trans ((if_neg (fun e => absurd e.1 (by decide))).trans c_12_252)
                                                    have c_13_254 := (qI_q hSn (k := 13) (k' := 14) (h := h254) (by decide) rfl (by decide) rfl ((6 * (10 * k_e + k3)) + ((mt_m t4).length)) ((6 * (10 * k_e + k3)) + ((mt_m t4).length)) (o)).trans ((if_neg (fun e => absurd e.1 (by decide))).trans c_13_254)
                                                    have hth := (xI_q hSn (k := 14) (h := h254) (by decide) rfl 0 ((6 * (10 * k_e + k3)) + ((mt_m t4).length)) (o)).trans hth
                                                    have c_14_255 : jv_I (jv_wI h254 (q 14) ((6 * (10 * k_e + k3)) + ((mt_m t4).length)) o) (q 14) ((6 * (10 * k_e + k3)) + ((mt_m t4).length)) = o := jv_I_self _ _ _ _
                                                    generalize jv_wI h254 (q 14) ((6 * (10 * k_e + k3)) + ((mt_m t4).length)) o = h255 at hF hSn2 c2 c_12_252 c_13_254 hth c_14_255 ⊢
                                                    clear hSn; have hSn := hSn2; clear hSn2
                                                    refine jv_aload_n (q := 324) G 4 dX8_member_323 rfl rfl rfl ?_
                                                    refine jv_getQ (q := 327) G dX8_member_324 fl_X8_50 rfl hSn.1 (rf_p15 hSn) rfl ?_
                                                    refine jv_iload (q := 329) G 0 dX8_member_327 rfl rfl ?_
                                                    refine jv_iload (q := 331) G 9 dX8_member_329 rfl rfl ?_
                                                    refine jv_iast (q := 332) G dX8_member_331 (rf_a15 hSn) rfl (by omega) (by decide) rfl ?_
                                                    have hF := hF.wq hS (k := 15) (j := (6 * (10 * k_e + k3)) + ((mt_m t4).length)) (by decide) rfl (Or.inr ⟨by unfold k_m; omega, rfl⟩) (s)
                                                    have hSn2 := hF.S hS
                                                    have c2 := (qI_q hSn (k := 2) (k' := 15) (h := h255) (by decide) rfl (by decide) rfl (k_e) ((6 * (10 * k_e + k3)) + ((mt_m t4).length)) (s)).trans ((if_neg (fun e => absurd e.1 (by decide))).trans c2)
                                                    have c_12_252 := (qI_q hSn (k := 12) (k' := 15) (h := h255) (by decide) rfl (by decide) rfl (10 * k_e + k3) ((6 * (10 * k_e + k3)) + ((mt_m t4).length)) (s)).trans ((if_neg (fun e => absurd e.1 (by decide))).trans c_12_252)
                                                    have c_13_254 := (qI_q hSn (k := 13) (k' := 15) (h := h255) (by decide) rfl (by decide) rfl ((6 * (10 * k_e + k3)) + ((mt_m t4).length)) ((6 * (10 * k_e + k3)) + ((mt_m t4).length)) (s)).trans ((if_neg (fun e => absurd e.1 (by decide))).trans c_13_254)
                                                    have c_14_255 := (qI_q hSn (k := 14) (k' := 15) (h := h255) (by decide) rfl (by decide) rfl ((6 * (10 * k_e + k3)) + ((mt_m t4).length)) ((6 * (10 * k_e + k3)) + ((mt_m t4).length)) (s)).trans ((if_neg (fun e => absurd e.1 (by decide))).trans c_14_255)
                                                    have hth := (xI_q hSn (k := 15) (h := h255) (by decide) rfl 0 ((6 * (10 * k_e + k3)) + ((mt_m t4).length)) (s)).trans hth
                                                    have c_15_256 : jv_I (jv_wI h255 (q 15) ((6 * (10 * k_e + k3)) + ((mt_m t4).length)) s) (q 15) ((6 * (10 * k_e + k3)) + ((mt_m t4).length)) = s := jv_I_self _ _ _ _
                                                    generalize jv_wI h255 (q 15) ((6 * (10 * k_e + k3)) + ((mt_m t4).length)) s = h256 at hF hSn2 c2 c_12_252 c_13_254 c_14_255 hth c_15_256 ⊢
                                                    clear hSn; have hSn := hSn2; clear hSn2
                                                    refine jv_aload_n (q := 333) G 4 dX8_member_332 rfl rfl rfl ?_
                                                    refine jv_getQ (q := 336) G dX8_member_333 fl_X8_53 rfl hSn.1 (rf_p16 hSn) rfl ?_
                                                    refine jv_iload (q := 338) G 0 dX8_member_336 rfl rfl ?_
                                                    refine jv_iload (q := 340) G 10 dX8_member_338 rfl rfl ?_
                                                    refine jv_iast (q := 341) G dX8_member_340 (rf_a16 hSn) rfl (by omega) (by decide) rfl ?_
                                                    have hF := hF.wq hS (k := 16) (j := (6 * (10 * k_e + k3)) + ((mt_m t4).length)) (by decide) rfl (Or.inr ⟨by unfold k_m; omega, rfl⟩) (a)
                                                    have hSn2 := hF.S hS
                                                    have c2 := (qI_q hSn (k := 2) (k' := 16) (h := h256) (by decide) rfl (by decide) rfl (k_e) ((6 * (10 * k_e + k3)) + ((mt_m t4).length)) (a)).trans ((if_neg (fun e => absurd e.1 (by decide))).trans c2)
                                                    have c_12_252 := (qI_q hSn (k := 12) (k' := 16) (h := h256) (by decide) rfl (by decide) rfl (10 * k_e + k3) ((6 * (10 * k_e + k3)) + ((mt_m t4).length)) (a)).trans ((if_neg (fun e => absurd e.1 (by decide))).trans c_12_252)
                                                    have c_13_254 := (qI_q hSn (k := 13) (k' := 16) (h := h256) (by decide) rfl (by decide) rfl ((6 * (10 * k_e + k3)) + ((mt_m t4).length)) ((6 * (10 * k_e + k3)) + ((mt_m t4).length)) (a)).trans ((if_neg (fun e => absurd e.1 (by decide))).trans c_13_254)
                                                    have c_14_255 := (qI_q hSn (k := 14) (k' := 16) (h := h256) (by decide) rfl (by decide) rfl ((6 * (10 * k_e + k3)) + ((mt_m t4).length)) ((6 * (10 * k_e + k3)) + ((mt_m t4).length)) (a)).trans ((if_neg (fun e => absurd e.1 (by decide))).trans c_14_255)
                                                    have c_15_256 := (qI_q hSn (k := 15) (k' := 16) (h := h256) (by decide) rfl (by decide) rfl ((6 * (10 * k_e + k3)) + ((mt_m t4).length)) ((6 * (10 * k_e + k3)) + ((mt_m t4).length)) (a)).trans ((if_neg (fun e => absurd e.1 (by decide))).trans c_15_256)
                                                    have hth := (xI_q hSn (k := 16) (h := h256) (by decide) rfl 0 ((6 * (10 * k_e + k3)) + ((mt_m t4).length)) (a)).trans hth
                                                    have c_16_257 : jv_I (jv_wI h256 (q 16) ((6 * (10 * k_e + k3)) + ((mt_m t4).length)) a) (q 16) ((6 * (10 * k_e + k3)) + ((mt_m t4).length)) = a := jv_I_self _ _ _ _
                                                    generalize jv_wI h256 (q 16) ((6 * (10 * k_e + k3)) + ((mt_m t4).length)) a = h257 at hF hSn2 c2 c_12_252 c_13_254 c_14_255 c_15_256 hth c_16_257 ⊢
                                                    clear hSn; have hSn := hSn2; clear hSn2
                                                    refine jv_aload_n (q := 342) G 4 dX8_member_341 rfl rfl rfl ?_
                                                    refine jv_getQ (q := 345) G dX8_member_342 fl_X8_56 rfl hSn.1 (rf_p17 hSn) rfl ?_
                                                    refine jv_iload (q := 347) G 0 dX8_member_345 rfl rfl ?_
                                                    refine jv_iload (q := 349) G 11 dX8_member_347 rfl rfl ?_
                                                    refine jv_zast (q := 350) G dX8_member_349 (rf_a17 hSn) rfl (by omega) (by decide) rfl ?_
                                                    have hF := hF.wq hS (k := 17) (j := (6 * (10 * k_e + k3)) + ((mt_m t4).length)) (by decide) rfl (Or.inr ⟨by unfold k_m; omega, rfl⟩) (jv_bI st)
                                                    have hSn2 := hF.S hS
                                                    have c2 := (qI_q hSn (k := 2) (k' := 17) (h := h257) (by decide) rfl (by decide) rfl (k_e) ((6 * (10 * k_e + k3)) + ((mt_m t4).length)) (jv_bI st)).trans ((if_neg (fun e => absurd e.1 (by decide))).trans c2)
                                                    have c_12_252 := (qI_q hSn (k := 12) (k' := 17) (h := h257) (by decide) rfl (by decide) rfl (10 * k_e + k3) ((6 * (10 * k_e + k3)) + ((mt_m t4).length)) (jv_bI st)).trans ((if_neg (fun e => absurd e.1 (by decide))).trans c_12_252)
                                                    have c_13_254 := (qI_q hSn (k := 13) (k' := 17) (h := h257) (by decide) rfl (by decide) rfl ((6 * (10 * k_e + k3)) + ((mt_m t4).length)) ((6 * (10 * k_e + k3)) + ((mt_m t4).length)) (jv_bI st)).trans ((if_neg (fun e => absurd e.1 (by decide))).trans c_13_254)
                                                    have c_14_255 := (qI_q hSn (k := 14) (k' := 17) (h := h257) (by decide) rfl (by decide) rfl ((6 * (10 * k_e + k3)) + ((mt_m t4).length)) ((6 * (10 * k_e + k3)) + ((mt_m t4).length)) (jv_bI st)).trans ((if_neg (fun e => absurd e.1 (by decide))).trans c_14_255)
                                                    have c_15_256 := (qI_q hSn (k := 15) (k' := 17) (h := h257) (by decide) rfl (by decide) rfl ((6 * (10 * k_e + k3)) + ((mt_m t4).length)) ((6 * (10 * k_e + k3)) + ((mt_m t4).length)) (jv_bI st)).trans ((if_neg (fun e => absurd e.1 (by decide))).trans c_15_256)
                                                    have c_16_257 := (qI_q hSn (k := 16) (k' := 17) (h := h257) (by decide) rfl (by decide) rfl ((6 * (10 * k_e + k3)) + ((mt_m t4).length)) ((6 * (10 * k_e + k3)) + ((mt_m t4).length)) (jv_bI st)).trans ((if_neg (fun e => absurd e.1 (by decide))).trans c_16_257)
                                                    have hth := (xI_q hSn (k := 17) (h := h257) (by decide) rfl 0 ((6 * (10 * k_e + k3)) + ((mt_m t4).length)) (jv_bI st)).trans hth
                                                    have c_17_258 : jv_I (jv_wI h257 (q 17) ((6 * (10 * k_e + k3)) + ((mt_m t4).length)) (jv_bI st)) (q 17) ((6 * (10 * k_e + k3)) + ((mt_m t4).length)) = jv_bI st := jv_I_self _ _ _ _
                                                    generalize jv_wI h257 (q 17) ((6 * (10 * k_e + k3)) + ((mt_m t4).length)) (jv_bI st) = h258 at hF hSn2 c2 c_12_252 c_13_254 c_14_255 c_15_256 c_16_257 hth c_17_258 ⊢
                                                    clear hSn; have hSn := hSn2; clear hSn2
                                                    refine jv_aload_n (q := 351) G 4 dX8_member_350 rfl rfl rfl ?_
                                                    refine jv_getQ (q := 354) G dX8_member_351 fl_X8_59 rfl hSn.1 (rf_p18 hSn) rfl ?_
                                                    refine jv_iload (q := 356) G 0 dX8_member_354 rfl rfl ?_
                                                    refine jv_iload (q := 358) G 12 dX8_member_356 rfl rfl ?_
                                                    refine jv_iast (q := 359) G dX8_member_358 (rf_a18 hSn) rfl (by omega) (by decide) rfl ?_
                                                    have hF := hF.wq hS (k := 18) (j := (6 * (10 * k_e + k3)) + ((mt_m t4).length)) (by decide) rfl (Or.inr ⟨by unfold k_m; omega, rfl⟩) (b)
                                                    have hSn2 := hF.S hS
                                                    have c2 := (qI_q hSn (k := 2) (k' := 18) (h := h258) (by decide) rfl (by decide) rfl (k_e) ((6 * (10 * k_e + k3)) + ((mt_m t4).length)) (b)).trans ((if_neg (fun e => absurd e.1 (by decide))).trans c2)
                                                    have c_12_252 := (qI_q hSn (k := 12) (k' := 18) (h := h258) (by decide) rfl (by decide) rfl (10 * k_e + k3) ((6 * (10 * k_e + k3)) + ((mt_m t4).length)) (b)).trans ((if_neg (fun e => absurd e.1 (by decide))).trans c_12_252)
                                                    have c_13_254 := (qI_q hSn (k := 13) (k' := 18) (h := h258) (by decide) rfl (by decide) rfl ((6 * (10 * k_e + k3)) + ((mt_m t4).length)) ((6 * (10 * k_e + k3)) + ((mt_m t4).length)) (b)).trans ((if_neg (fun e => absurd e.1 (by decide))).trans c_13_254)
                                                    have c_14_255 := (qI_q hSn (k := 14) (k' := 18) (h := h258) (by decide) rfl (by decide) rfl ((6 * (10 * k_e + k3)) + ((mt_m t4).length)) ((6 * (10 * k_e + k3)) + ((mt_m t4).length)) (b)).trans ((if_neg (fun e => absurd e.1 (by decide))).trans c_14_255)
                                                    have c_15_256 := (qI_q hSn (k := 15) (k' := 18) (h := h258) (by decide) rfl (by decide) rfl ((6 * (10 * k_e + k3)) + ((mt_m t4).length)) ((6 * (10 * k_e + k3)) + ((mt_m t4).length)) (b)).trans ((if_neg (fun e => absurd e.1 (by decide))).trans c_15_256)
                                                    have c_16_257 := (qI_q hSn (k := 16) (k' := 18) (h := h258) (by decide) rfl (by decide) rfl ((6 * (10 * k_e + k3)) + ((mt_m t4).length)) ((6 * (10 * k_e + k3)) + ((mt_m t4).length)) (b)).trans ((if_neg (fun e => absurd e.1 (by decide))).trans c_16_257)
                                                    have c_17_258 := (qI_q hSn (k := 17) (k' := 18) (h := h258) (by decide) rfl (by decide) rfl ((6 * (10 * k_e + k3)) + ((mt_m t4).length)) ((6 * (10 * k_e + k3)) + ((mt_m t4).length)) (b)).trans ((if_neg (fun e => absurd e.1 (by decide))).trans c_17_258)
                                                    have hth := (xI_q hSn (k := 18) (h := h258) (by decide) rfl 0 ((6 * (10 * k_e + k3)) + ((mt_m t4).length)) (b)).trans hth
                                                    have c_18_259 : jv_I (jv_wI h258 (q 18) ((6 * (10 * k_e + k3)) + ((mt_m t4).length)) b) (q 18) ((6 * (10 * k_e + k3)) + ((mt_m t4).length)) = b := jv_I_self _ _ _ _
                                                    generalize jv_wI h258 (q 18) ((6 * (10 * k_e + k3)) + ((mt_m t4).length)) b = h259 at hF hSn2 c2 c_12_252 c_13_254 c_14_255 c_15_256 c_16_257 c_17_258 hth c_18_259 ⊢
                                                    clear hSn; have hSn := hSn2; clear hSn2
                                                    refine jv_aload_n (q := 360) G 4 dX8_member_359 rfl rfl rfl ?_
                                                    refine jv_getQ (q := 363) G dX8_member_360 fl_X8_62 rfl hSn.1 (rf_p19 hSn) rfl ?_
                                                    refine jv_iload (q := 365) G 0 dX8_member_363 rfl rfl ?_
                                                    refine jv_iload_n (q := 366) G 7 dX8_member_365 rfl rfl rfl ?_
                                                    refine jv_iconst (q := 367) (v := nI 2) G dX8_member_366 (by decide) rfl ?_
                                                    refine jv_icmp_neN (q := 370) (tgt := 374) G dX8_member_367 (by decide) rfl (by omega) (by omega) (fun c260 => ?_) (fun c260 => ?_)
                                                    · refine jv_iconst (q := 375) (v := nI 0) G dX8_member_374 (by decide) rfl ?_
                                                      refine jv_topI (y := jv_bI false) rfl ?_
                                                      refine jv_zast (q := 376) G dX8_member_375 (rf_a19 hSn) rfl (by omega) (by decide) rfl ?_
                                                      have hF := hF.wq hS (k := 19) (j := (6 * (10 * k_e + k3)) + ((mt_m t4).length)) (by decide) rfl (Or.inr ⟨by unfold k_m; omega, rfl⟩) (jv_bI false)
                                                      have hSn2 := hF.S hS
                                                      have c2 := (qI_q hSn (k := 2) (k' := 19) (h := h259) (by decide) rfl (by decide) rfl (k_e) ((6 * (10 * k_e + k3)) + ((mt_m t4).length)) (jv_bI false)).trans ((if_neg (fun e => absurd e.1 (by decide))).trans c2)
                                                      have c_12_252 := (qI_q hSn (k := 12) (k' := 19) (h := h259) (by decide) rfl (by decide) rfl (10 * k_e + k3) ((6 * (10 * k_e + k3)) + ((mt_m t4).length)) (jv_bI false)).trans ((if_neg (fun e => absurd e.1 (by decide))).trans c_12_252)
                                                      have c_13_254 := (qI_q hSn (k := 13) (k' := 19) (h := h259) (by decide) rfl (by decide) rfl ((6 * (10 * k_e + k3)) + ((mt_m t4).length)) ((6 * (10 * k_e + k3)) + ((mt_m t4).length)) (jv_bI false)).trans ((if_neg (fun e => absurd e.1 (by decide))).trans c_13_254)
                                                      have c_14_255 := (qI_q hSn (k := 14) (k' := 19) (h := h259) (by decide) rfl (by decide) rfl ((6 * (10 * k_e + k3)) + ((mt_m t4).length)) ((6 * (10 * k_e + k3)) + ((mt_m t4).length)) (jv_bI false)).trans ((if_neg (fun e => absurd e.1 (by decide))).trans c_14_255)
                                                      have c_15_256 := (qI_q hSn (k := 15) (k' := 19) (h := h259) (by decide) rfl (by decide) rfl ((6 * (10 * k_e + k3)) + ((mt_m t4).length)) ((6 * (10 * k_e + k3)) + ((mt_m t4).length)) (jv_bI false)).trans ((if_neg (fun e => absurd e.1 (by decide))).trans c_15_256)
                                                      have c_16_257 := (qI_q hSn (k := 16) (k' := 19) (h := h259) (by decide) rfl (by decide) rfl ((6 * (10 * k_e + k3)) + ((mt_m t4).length)) ((6 * (10 * k_e + k3)) + ((mt_m t4).length)) (jv_bI false)).trans ((if_neg (fun e => absurd e.1 (by decide))).trans c_16_257)
                                                      have c_17_258 := (qI_q hSn (k := 17) (k' := 19) (h := h259) (by decide) rfl (by decide) rfl ((6 * (10 * k_e + k3)) + ((mt_m t4).length)) ((6 * (10 * k_e + k3)) + ((mt_m t4).length)) (jv_bI false)).trans ((if_neg (fun e => absurd e.1 (by decide))).trans c_17_258)
                                                      have c_18_259 := (qI_q hSn (k := 18) (k' := 19) (h := h259) (by decide) rfl (by decide) rfl ((6 * (10 * k_e + k3)) + ((mt_m t4).length)) ((6 * (10 * k_e + k3)) + ((mt_m t4).length)) (jv_bI false)).trans ((if_neg (fun e => absurd e.1 (by decide))).trans c_18_259)
                                                      have hth := (xI_q hSn (k := 19) (h := h259) (by decide) rfl 0 ((6 * (10 * k_e + k3)) + ((mt_m t4).length)) (jv_bI false)).trans hth
                                                      have c_19_261 : jv_I (jv_wI h259 (q 19) ((6 * (10 * k_e + k3)) + ((mt_m t4).length)) (jv_bI false)) (q 19) ((6 * (10 * k_e + k3)) + ((mt_m t4).length)) = jv_bI false := jv_I_self _ _ _ _
                                                      generalize jv_wI h259 (q 19) ((6 * (10 * k_e + k3)) + ((mt_m t4).length)) (jv_bI false) = h261 at hF hSn2 c2 c_12_252 c_13_254 c_14_255 c_15_256 c_16_257 c_17_258 c_18_259 hth c_19_261 ⊢
                                                      clear hSn; have hSn := hSn2; clear hSn2
                                                      refine jv_aload_n (q := 377) G 4 dX8_member_376 rfl rfl rfl ?_
                                                      refine jv_getQ (q := 380) G dX8_member_377 fl_X8_41 rfl hSn.1 (rf_p12 hSn) rfl ?_
                                                      refine jv_iload (q := 382) G 3 dX8_member_380 rfl rfl ?_
                                                      refine jv_iald (q := 383) G dX8_member_382 (rf_a12 hSn) rfl (by omega) (by decide) c_12_252 rfl ?_
                                                      refine jv_iret G hr dX8_member_383 (Nat.le_of_ble_eq_true rfl) (Nat.le_of_ble_eq_true rfl) ?_
                                                      have hg : m_mbG t4 (nI 1) o s a st b = true := by
                                                        unfold m_mbG; simp only [*, nI_21, nI_12, nI_102, eq_self,  if_true, if_false, Bool.false_eq_true, reduceIte, Bool.and_true, Bool.and_false, Bool.true_and, Bool.false_and, Bool.not_true, Bool.not_false, Bool.true_or, Bool.or_true, Bool.false_or, Option.isNone_some, Option.isNone_none, decide_true, decide_false]
                                                      have hM2 := rf_M.new (w1 := true) (w2 := false) hg (by simp only [*, nI_21, nI_12, nI_102, eq_self,  if_true, if_false, Bool.false_eq_true, reduceIte, Bool.and_true, Bool.and_false, Bool.true_and, Bool.false_and, Bool.not_true, Bool.not_false, Bool.true_or, Bool.or_true, Bool.false_or, Option.isNone_some, Option.isNone_none, decide_true, decide_false]) (by simp only [*, nI_21, nI_12, nI_102, eq_self,  if_true, if_false, Bool.false_eq_true, reduceIte, Bool.and_true, Bool.and_false, Bool.true_and, Bool.false_and, Bool.not_true, Bool.not_false, Bool.true_or, Bool.or_true, Bool.false_or, Option.isNone_some, Option.isNone_none, decide_true, decide_false]) c_13_254 c_14_255 c_15_256 c_16_257 c_17_258 c_18_259 c_19_261
                                                      have hT2 := rf_T.cM (Tt4) Ot4 (by have := Ot4.2.2.2.2.2.1; omega) hF c_12_252 hM2
                                                      refine pO.mk (th := 0) (r := nI ((mt_m t4).length + 1)) (M' := m_put M k_e (false, (ma_t M k_e).set k3 (m_tM t4 (mt_m t4 ++ [m_mbN (nI 1) o s a st b])))) ?_ rfl hth (rf_R.ed hR hke hse (hF.mono (fun k j w => o_T_E (i := k3) (by omega) (by unfold k_m at w; unfold o_T k_t k_m; have := Ot4.2.2.2.2.2.1; omega)) (fun _ z => z)) c2 (hE.upd lt4 (hF.mono (W' := o_T (10 * k_e + k3)) (fun k j w => by unfold k_m at w; unfold o_T k_t k_m; have := Ot4.2.2.2.2.2.1; omega) (fun _ z => z)) hT2) (fun z => by cases z)) ((hrs.FW hS0).fr.tr hF.fr)
                                                      unfold m_mb
                                                      rw [m_opT_yes zke hse (by assumption) ht4, if_pos hg, if_neg (by omega)]
                                                    · omega
                                                · omega
                                              · refine jv_iconst (q := 255) (v := nI 4) G dX8_member_254 (by decide) rfl ?_
                                                refine jv_goto (q := 259) G dX8_member_255 (by decide) ?_
                                                refine jv_putI (q := 262) G dX8_member_259 fl_X8_122 rfl hS.1 rfl ?_
                                                have hr1 : rs x q h1 (jv_wI h1 x 0 (nI 4)) := rs.rf.wI (nI 4) (Or.inl ⟨rfl, Or.inl rfl⟩)
                                                have hth : jv_I (jv_wI h1 x 0 (nI 4)) x 0 = (nI 4) := jv_I_self _ _ _ _
                                                have hR := hr1.R hR
                                                have hrs := hrs.tr hr1
                                                generalize jv_wI h1 x 0 (nI 4) = h262 at hth hR hrs ⊢
                                                obtain ⟨hS, ⟨hn8, hn⟩, ⟨hm12, hm⟩, hD, hV, hCs⟩ := id hR
                                                have hsc : sc x q h262 h262 := sc.rf
                                                have hE := (hD k_e (by omega)).2
                                                have Tt4 := (hE.2.2 k3 t4 ht4).1
                                                refine jv_aload_n (q := 263) G 3 dX8_member_262 rfl rfl rfl ?_
                                                refine jv_getI (q := 266) G dX8_member_263 fl_X8_122 rfl hS.1 hth rfl ?_
                                                refine jv_if_leN (q := 269) (tgt := 271) G dX8_member_266 (by decide) rfl (by omega) (fun c263 => ?_) (fun c263 => ?_)
                                                · omega
                                                · refine jv_iconst (q := 270) (v := nI 0) G dX8_member_269 (by decide) rfl ?_
                                                  refine jv_iret G hr dX8_member_270 (Nat.le_of_ble_eq_true rfl) (Nat.le_of_ble_eq_true rfl) ?_
                                                  refine pO.no (M := M) hS0 ?_ rfl hth hR hrs
                                                  unfold m_mb; rw [m_opT_yes zke hse (by assumption) ht4]; unfold m_mbG
                                                  simp only [*, nI_21, nI_12, nI_102, eq_self,  if_true, if_false, Bool.false_eq_true, reduceIte, Bool.and_true, Bool.and_false, Bool.true_and, Bool.false_and, Bool.not_true, Bool.not_false, Bool.true_or, Bool.or_true, Bool.false_or, Option.isNone_some, Option.isNone_none, decide_true, decide_false]
                                            · omega
                                        · refine jv_topI (y := nI (6 * (10 * k_e + k3) + j244)) (by rw [hj246]; rfl) ?_
                                          obtain ⟨m245, hm245, wm245, nm245, sm245, lm245⟩ := m_own_some hj246
                                          have Mm245 := rt_m Tt4 hm245
                                          have Om245 := Ot4.2.2.2.2.2.2 m245 (List.mem_of_getElem? hm245)
                                          have Lm245 := Ot4.2.2.2.2.2.1
                                          have Bm245n := Om245.1; have Bm245s := Om245.2.1; have Bm245a := Om245.2.2.1
                                          refine jv_iconst (q := 222) (v := (-1)) G dX8_member_221 (by decide) rfl ?_
                                          refine jv_icmp_ne (q := 225) (tgt := 229) G dX8_member_222 (by decide) rfl (fun c264 => ?_) (fun c264 => ?_)
                                          · refine jv_iconst (q := 230) (v := nI 0) G dX8_member_229 (by decide) rfl ?_
                                            refine jv_istore (q := 232) (lo' := [(11, .int (nI 0)), (10, .int (nI 1)), (9, .int (nI (10 * k_e + k3))), (0, .ref x), (1, .int (nI k_e)), (2, .int n), (3, .int (nI 1)), (4, .int o), (5, .int s), (6, .int a), (7, .int (jv_bI st)), (8, .int b)]) G dX8_member_230 (by decide) rfl rfl ?_
                                            refine jv_aload_n (q := 233) G 3 dX8_member_232 rfl rfl rfl ?_
                                            refine jv_iload (q := 235) G 0 dX8_member_233 rfl rfl ?_
                                            refine jv_if_neN (q := 238) (tgt := 242) G dX8_member_235 (by decide) rfl (by omega) (fun c265 => ?_) (fun c265 => ?_)
                                            · omega
                                            · refine jv_iconst (q := 239) (v := nI 3) G dX8_member_238 (by decide) rfl ?_
                                              refine jv_goto (q := 259) G dX8_member_239 (by decide) ?_
                                              refine jv_putI (q := 262) G dX8_member_259 fl_X8_122 rfl hS.1 rfl ?_
                                              have hr1 : rs x q h1 (jv_wI h1 x 0 (nI 3)) := rs.rf.wI (nI 3) (Or.inl ⟨rfl, Or.inl rfl⟩)
                                              have hth : jv_I (jv_wI h1 x 0 (nI 3)) x 0 = (nI 3) := jv_I_self _ _ _ _
                                              have hR := hr1.R hR
                                              have hrs := hrs.tr hr1
                                              generalize jv_wI h1 x 0 (nI 3) = h266 at hth hR hrs ⊢
                                              obtain ⟨hS, ⟨hn8, hn⟩, ⟨hm12, hm⟩, hD, hV, hCs⟩ := id hR
                                              have hsc : sc x q h266 h266 := sc.rf
                                              have hE := (hD k_e (by omega)).2
                                              have Tt4 := (hE.2.2 k3 t4 ht4).1
                                              refine jv_aload_n (q := 263) G 3 dX8_member_262 rfl rfl rfl ?_
                                              refine jv_getI (q := 266) G dX8_member_263 fl_X8_122 rfl hS.1 hth rfl ?_
                                              refine jv_if_leN (q := 269) (tgt := 271) G dX8_member_266 (by decide) rfl (by omega) (fun c267 => ?_) (fun c267 => ?_)
                                              · omega
                                              · refine jv_iconst (q := 270) (v := nI 0) G dX8_member_269 (by decide) rfl ?_
                                                refine jv_iret G hr dX8_member_270 (Nat.le_of_ble_eq_true rfl) (Nat.le_of_ble_eq_true rfl) ?_
                                                refine pO.no (M := M) hS0 ?_ rfl hth hR hrs
                                                unfold m_mb; rw [m_opT_yes zke hse (by assumption) ht4]; unfold m_mbG
                                                simp only [*, nI_21, nI_12, nI_102, eq_self,  if_true, if_false, Bool.false_eq_true, reduceIte, Bool.and_true, Bool.and_false, Bool.true_and, Bool.false_and, Bool.not_true, Bool.not_false, Bool.true_or, Bool.or_true, Bool.false_or, Option.isNone_some, Option.isNone_none, decide_true, decide_false]
                                          · exact absurd c264 (jv_nI_m1 (by omega))
                                  · refine jv_iload (q := 175) G 9 dX8_member_173 rfl rfl ?_
                                    refine jv_iconst (q := 176) (v := nI 3) G dX8_member_175 (by decide) rfl ?_
                                    refine jv_icmp_ne (q := 179) (tgt := 193) G dX8_member_176 (by decide) rfl (fun c268 => ?_) (fun c268 => ?_)
                                    · refine jv_iconst (q := 194) (v := nI 0) G dX8_member_193 (by decide) rfl ?_
                                      refine jv_istore (q := 196) (lo' := [(11, .int (nI 0)), (10, .int (nI 1)), (9, .int (nI (10 * k_e + k3))), (0, .ref x), (1, .int (nI k_e)), (2, .int n), (3, .int (nI 1)), (4, .int o), (5, .int s), (6, .int a), (7, .int (jv_bI st)), (8, .int b)]) G dX8_member_194 (by decide) rfl rfl ?_
                                      refine jv_iload (q := 198) G 0 dX8_member_196 rfl rfl ?_
                                      refine jv_if_eqN (q := 201) (tgt := 232) G dX8_member_198 (by decide) rfl (by omega) (fun c269 => ?_) (fun c269 => ?_)
                                      · refine jv_aload_n (q := 233) G 3 dX8_member_232 rfl rfl rfl ?_
                                        refine jv_iload (q := 235) G 0 dX8_member_233 rfl rfl ?_
                                        refine jv_if_neN (q := 238) (tgt := 242) G dX8_member_235 (by decide) rfl (by omega) (fun c270 => ?_) (fun c270 => ?_)
                                        · omega
                                        · refine jv_iconst (q := 239) (v := nI 3) G dX8_member_238 (by decide) rfl ?_
                                          refine jv_goto (q := 259) G dX8_member_239 (by decide) ?_
                                          refine jv_putI (q := 262) G dX8_member_259 fl_X8_122 rfl hS.1 rfl ?_
                                          have hr1 : rs x q h1 (jv_wI h1 x 0 (nI 3)) := rs.rf.wI (nI 3) (Or.inl ⟨rfl, Or.inl rfl⟩)
                                          have hth : jv_I (jv_wI h1 x 0 (nI 3)) x 0 = (nI 3) := jv_I_self _ _ _ _
                                          have hR := hr1.R hR
                                          have hrs := hrs.tr hr1
                                          generalize jv_wI h1 x 0 (nI 3) = h271 at hth hR hrs ⊢
                                          obtain ⟨hS, ⟨hn8, hn⟩, ⟨hm12, hm⟩, hD, hV, hCs⟩ := id hR
                                          have hsc : sc x q h271 h271 := sc.rf
                                          have hE := (hD k_e (by omega)).2
                                          have Tt4 := (hE.2.2 k3 t4 ht4).1
                                          refine jv_aload_n (q := 263) G 3 dX8_member_262 rfl rfl rfl ?_
                                          refine jv_getI (q := 266) G dX8_member_263 fl_X8_122 rfl hS.1 hth rfl ?_
                                          refine jv_if_leN (q := 269) (tgt := 271) G dX8_member_266 (by decide) rfl (by omega) (fun c272 => ?_) (fun c272 => ?_)
                                          · omega
                                          · refine jv_iconst (q := 270) (v := nI 0) G dX8_member_269 (by decide) rfl ?_
                                            refine jv_iret G hr dX8_member_270 (Nat.le_of_ble_eq_true rfl) (Nat.le_of_ble_eq_true rfl) ?_
                                            refine pO.no (M := M) hS0 ?_ rfl hth hR hrs
                                            unfold m_mb; rw [m_opT_yes zke hse (by assumption) ht4]; unfold m_mbG
                                            simp only [*, nI_21, nI_12, nI_102, eq_self,  if_true, if_false, Bool.false_eq_true, reduceIte, Bool.and_true, Bool.and_false, Bool.true_and, Bool.false_and, Bool.not_true, Bool.not_false, Bool.true_or, Bool.or_true, Bool.false_or, Option.isNone_some, Option.isNone_none, decide_true, decide_false]
                                      · omega
                                    · subst c268
                                      refine jv_iload (q := 181) G 1 dX8_member_179 rfl rfl ?_
                                      refine jv_if_neN (q := 184) (tgt := 189) G dX8_member_181 (by decide) rfl (by omega) (fun c273 => ?_) (fun c273 => ?_)
                                      · refine jv_iconst (q := 190) (v := nI 1) G dX8_member_189 (by decide) rfl ?_
                                        refine jv_goto (q := 194) G dX8_member_190 (by decide) ?_
                                        refine jv_istore (q := 196) (lo' := [(11, .int (nI 1)), (10, .int (nI 1)), (9, .int (nI (10 * k_e + k3))), (0, .ref x), (1, .int (nI k_e)), (2, .int n), (3, .int (nI 1)), (4, .int o), (5, .int s), (6, .int (nI 3)), (7, .int (jv_bI st)), (8, .int b)]) G dX8_member_194 (by decide) rfl rfl ?_
                                        refine jv_iload (q := 198) G 0 dX8_member_196 rfl rfl ?_
                                        refine jv_if_eqN (q := 201) (tgt := 232) G dX8_member_198 (by decide) rfl (by omega) (fun c274 => ?_) (fun c274 => ?_)
                                        · omega
                                        · refine jv_aload_n (q := 202) G 3 dX8_member_201 rfl rfl rfl ?_
                                          refine jv_iload (q := 204) G 2 dX8_member_202 rfl rfl ?_
                                          refine jv_iload (q := 206) G 1 dX8_member_204 rfl rfl ?_
                                          refine jv_if_eqN (q := 209) (tgt := 213) G dX8_member_206 (by decide) rfl (by omega) (fun c275 => ?_) (fun c275 => ?_)
                                          · omega
                                          · refine jv_iconst (q := 210) (v := nI 1) G dX8_member_209 (by decide) rfl ?_
                                            refine jv_goto (q := 214) G dX8_member_210 (by decide) ?_
                                            refine jv_iload (q := 216) G 7 dX8_member_214 rfl rfl ?_
                                            refine jv_iload (q := 218) G 8 dX8_member_216 rfl rfl ?_
                                            refine jv_callV_I (q := 221) (h1 := h1) (As := [.int (nI (10 * k_e + k3)), .int (nI 1), .int o, .int s]) (rest := []) (ce' := 0) (sl' := 0) (r := jv_oN ((m_own t4 (nI 1) o s).map (fun j => 6 * (10 * k_e + k3) + j))) G Z ml_X8_155 (r_own hlt (hsc.S hS) (by omega) (hsc.T hS Tt4) Ot4) hS.1 dX8_member_218 rfl (by decide) (by decide) (by decide) (by decide) (Nat.le_of_ble_eq_true rfl) rfl rfl rfl rfl ?_
                                            rcases Option.eq_none_or_eq_some (m_own t4 (nI 1) o s) with hj278 | ⟨j276, hj278⟩
                                            · refine jv_topI (y := (-1)) (by rw [hj278]; rfl) ?_
                                              refine jv_iconst (q := 222) (v := (-1)) G dX8_member_221 (by decide) rfl ?_
                                              refine jv_icmp_ne (q := 225) (tgt := 229) G dX8_member_222 (by decide) rfl (fun c279 => ?_) (fun c279 => ?_)
                                              · exact absurd rfl c279
                                              · refine jv_iconst (q := 226) (v := nI 1) G dX8_member_225 (by decide) rfl ?_
                                                refine jv_goto (q := 230) G dX8_member_226 (by decide) ?_
                                                refine jv_istore (q := 232) (lo' := [(11, .int (nI 1)), (10, .int (nI 1)), (9, .int (nI (10 * k_e + k3))), (0, .ref x), (1, .int (nI k_e)), (2, .int n), (3, .int (nI 1)), (4, .int o), (5, .int s), (6, .int (nI 3)), (7, .int (jv_bI st)), (8, .int b)]) G dX8_member_230 (by decide) rfl rfl ?_
                                                refine jv_aload_n (q := 233) G 3 dX8_member_232 rfl rfl rfl ?_
                                                refine jv_iload (q := 235) G 0 dX8_member_233 rfl rfl ?_
                                                refine jv_if_neN (q := 238) (tgt := 242) G dX8_member_235 (by decide) rfl (by omega) (fun c280 => ?_) (fun c280 => ?_)
                                                · refine jv_aload_n (q := 243) G 3 dX8_member_242 rfl rfl rfl ?_
                                                  refine jv_getQ (q := 246) G dX8_member_243 fl_X8_41 rfl hS.1 (rf_p12 hS) rfl ?_
                                                  refine jv_iload (q := 248) G 2 dX8_member_246 rfl rfl ?_
                                                  refine jv_iald (q := 249) G dX8_member_248 (rf_a12 hS) rfl (by omega) (by decide) (rt_12 (hsc.T hS Tt4)) rfl ?_
                                                  refine jv_bipush (q := 251) (v := nI 6) G dX8_member_249 (by decide) rfl ?_
                                                  refine jv_icmp_neN (q := 254) (tgt := 258) G dX8_member_251 (by decide) rfl (by omega) (by omega) (fun c281 => ?_) (fun c281 => ?_)
                                                  · refine jv_iconst (q := 259) (v := nI 0) G dX8_member_258 (by decide) rfl ?_
                                                    refine jv_putI (q := 262) G dX8_member_259 fl_X8_122 rfl hS.1 rfl ?_
                                                    have hr1 : rs x q h1 (jv_wI h1 x 0 (nI 0)) := rs.rf.wI (nI 0) (Or.inl ⟨rfl, Or.inl rfl⟩)
                                                    have hth : jv_I (jv_wI h1 x 0 (nI 0)) x 0 = (nI 0) := jv_I_self _ _ _ _
                                                    have hR := hr1.R hR
                                                    have hrs := hrs.tr hr1
                                                    generalize jv_wI h1 x 0 (nI 0) = h282 at hth hR hrs ⊢
                                                    obtain ⟨hS, ⟨hn8, hn⟩, ⟨hm12, hm⟩, hD, hV, hCs⟩ := id hR
                                                    have hsc : sc x q h282 h282 := sc.rf
                                                    have hE := (hD k_e (by omega)).2
                                                    have Tt4 := (hE.2.2 k3 t4 ht4).1
                                                    refine jv_aload_n (q := 263) G 3 dX8_member_262 rfl rfl rfl ?_
                                                    refine jv_getI (q := 266) G dX8_member_263 fl_X8_122 rfl hS.1 hth rfl ?_
                                                    refine jv_if_leN (q := 269) (tgt := 271) G dX8_member_266 (by decide) rfl (by omega) (fun c283 => ?_) (fun c283 => ?_)
                                                    · have c2 : jv_I h282 (q 2) k_e = jv_bI false := (hD k_e (by omega)).1.trans (by rw [hse])
                                                      have c12 := rt_12 Tt4
                                                      have hl6 := Ot4.2.2.2.2.2.1
                                                      have hF : FW (fun k j => (k = 12 ∧ j = 10 * k_e + k3) ∨ (k_m k ∧ j = 6 * (10 * k_e + k3) + (mt_m t4).length)) xcr x q h282 h282 := FW.rf
                                                      have hSn := hS
                                                      refine jv_bipush (q := 273) (v := nI 6) G dX8_member_271 (by decide) rfl ?_
                                                      refine jv_iload (q := 275) G 2 dX8_member_273 rfl rfl ?_
                                                      refine jv_imulN (q := 276) G dX8_member_275 rfl ?_
                                                      refine jv_aload_n (q := 277) G 3 dX8_member_276 rfl rfl rfl ?_
                                                      refine jv_getQ (q := 280) G dX8_member_277 fl_X8_41 rfl hS.1 (rf_p12 hS) rfl ?_
                                                      refine jv_iload (q := 282) G 2 dX8_member_280 rfl rfl ?_
                                                      refine jv_iald (q := 283) G dX8_member_282 (rf_a12 hS) rfl (by omega) (by decide) (rt_12 (hsc.T hS Tt4)) rfl ?_
                                                      refine jv_iaddN (q := 284) G dX8_member_283 rfl ?_
                                                      refine jv_istore (q := 286) (lo' := [(12, .int (nI ((6 * (10 * k_e + k3)) + ((mt_m t4).length)))), (11, .int (nI 1)), (10, .int (nI 1)), (9, .int (nI (10 * k_e + k3))), (0, .ref x), (1, .int (nI k_e)), (2, .int n), (3, .int (nI 1)), (4, .int o), (5, .int s), (6, .int (nI 3)), (7, .int (jv_bI st)), (8, .int b)]) G dX8_member_284 (by decide) rfl rfl ?_
                                                      refine jv_aload_n (q := 287) G 4 dX8_member_286 rfl rfl rfl ?_
                                                      refine jv_getQ (q := 290) G dX8_member_287 fl_X8_41 rfl hS.1 (rf_p12 hS) rfl ?_
                                                      refine jv_iload (q := 292) G 3 dX8_member_290 rfl rfl ?_
                                                      refine jv_dup2 (q := 293) G dX8_member_292 rfl rfl rfl ?_
                                                      refine jv_iald (q := 294) G dX8_member_293 (rf_a12 hS) rfl (by omega) (by decide) (rt_12 (hsc.T hS Tt4)) rfl ?_
                                                      refine jv_iconst (q := 295) (v := nI 1) G dX8_member_294 (by decide) rfl ?_
                                                      refine jv_iaddN (q := 296) G dX8_member_295 rfl ?_
                                                      refine jv_iast (q := 297) G dX8_member_296 (rf_a12 hS) rfl (by omega) (by decide) rfl ?_
                                                      have hF := hF.wq hS (k := 12) (j := 10 * k_e + k3) (by decide) rfl (Or.inl ⟨rfl, rfl⟩) (nI (((mt_m t4).length) + 1))
                                                      have hSn2 := hF.S hS
                                                      have c2 := (qI_q hSn (k := 2) (k' := 12) (h := h282) (by decide) rfl (by decide) rfl (k_e) (10 * k_e + k3) (nI (((mt_m t4).length) + 1))).trans ((if_neg (fun e => absurd e.1 (by decide))).trans c2)
                                                      have hth := (xI_q hSn (k := 12) (h := h282) (by decide) rfl 0 (10 * k_e + k3) (nI (((mt_m t4).length) + 1))).trans hth
                                                      have c_12_284 : jv_I (jv_wI h282 (q 12) (10 * k_e + k3) (nI (((mt_m t4).length) + 1))) (q 12) (10 * k_e + k3) = nI (((mt_m t4).length) + 1) := jv_I_self _ _ _ _
                                                      generalize jv_wI h282 (q 12) (10 * k_e + k3) (nI (((mt_m t4).length) + 1)) = h284 at hF hSn2 c2 hth c_12_284 ⊢
                                                      clear hSn; have hSn := hSn2; clear hSn2
                                                      refine jv_aload_n (q := 298) G 4 dX8_member_297 rfl rfl rfl ?_
                                                      refine jv_getQ (q := 301) G dX8_member_298 fl_X8_44 rfl hSn.1 (rf_p13 hSn) rfl ?_
                                                      refine jv_iload (q := 303) G 0 dX8_member_301 rfl rfl ?_
                                                      refine jv_iload (q := 305) G 2 dX8_member_303 rfl rfl ?_
                                                      refine jv_if_eqN (q := 308) (tgt := 312) G dX8_member_305 (by decide) rfl (by omega) (fun c285 => ?_) (fun c285 => ?_)
                                                      · omega
                                                      · refine jv_iconst (q := 309) (v := nI 1) G dX8_member_308 (by decide) rfl ?_
                                                        refine jv_goto (q := 313) G dX8_member_309 (by decide) ?_
                                                        refine jv_iast (q := 314) G dX8_member_313 (rf_a13 hSn) rfl (by omega) (by decide) rfl ?_
                                                        have hF := hF.wq hS (k := 13) (j := (6 * (10 * k_e + k3)) + ((mt_m t4).length)) (by decide) rfl (Or.inr ⟨by unfold k_m; omega, rfl⟩) (nI 1)
                                                        have hSn2 := hF.S hS
                                                        have c2 := (qI_q hSn (k := 2) (k' := 13) (h := h284) (by decide) rfl (by decide) rfl (k_e) ((6 * (10 * k_e + k3)) + ((mt_m t4).length)) (nI 1)).trans ((if_neg (fun e => absurd e.1 (by decide))).trans c2)
                                                        have c_12_284 := (qI_q hSn (k := 12) (k' := 13) (h := h284) (by decide) rfl (by decide) rfl (10 * k_e + k3) ((6 * (10 * k_e + k3)) + ((mt_m t4).length)) (nI 1)).trans ((if_neg (fun e => absurd e.1 (by decide))).trans c_12_284)
                                                        have hth := (xI_q hSn (k := 13) (h := h284) (by decide) rfl 0 ((6 * (10 * k_e + k3)) + ((mt_m t4).length)) (nI 1)).trans hth
                                                        have c_13_286 : jv_I (jv_wI h284 (q 13) ((6 * (10 * k_e + k3)) + ((mt_m t4).length)) (nI 1)) (q 13) ((6 * (10 * k_e + k3)) + ((mt_m t4).length)) = nI 1 := jv_I_self _ _ _ _
                                                        generalize jv_wI h284 (q 13) ((6 * (10 * k_e + k3)) + ((mt_m t4).length)) (nI 1) = h286 at hF hSn2 c2 c_12_284 hth c_13_286 ⊢
                                                        clear hSn; have hSn := hSn2; clear hSn2
                                                        refine jv_aload_n (q := 315) G 4 dX8_member_314 rfl rfl rfl ?_
                                                        refine jv_getQ (q := 318) G dX8_member_315 fl_X8_47 rfl hSn.1 (rf_p14 hSn) rfl ?_
                                                        refine jv_iload (q := 320) G 0 dX8_member_318 rfl rfl ?_
                                                        refine jv_iload (q := 322) G 8 dX8_member_320 rfl rfl ?_
                                                        refine jv_iast (q := 323) G dX8_member_322 (rf_a14 hSn) rfl (by omega) (by decide) rfl ?_
                                                        have hF := hF.wq hS (k := 14) (j := (6 * (10 * k_e + k3)) + ((mt_m t4).length)) (by decide) rfl (Or.inr ⟨by unfold k_m; omega, rfl⟩) (o)
                                                        have hSn2 := hF.S hS
                                                        have c2 := (qI_q hSn (k := 2) (k' := 14) (h := h286) (by decide) rfl (by decide) rfl (k_e) ((6 * (10 * k_e + k3)) + ((mt_m t4).length)) (o)).trans ((if_neg (fun e => absurd e.1 (by decide))).trans c2)
                                                        have c_12_284 := (qI_q hSn (k := 12) (k' := 14) (h := h286) (by decide) rfl (by decide) rfl (10 * k_e + k3) ((6 * (10 * k_e + k3)) + ((mt_m t4).length)) (o)).trans ((if_neg (fun e => absurd e.1 (by decide))).trans c_12_284)
                                                        have c_13_286 := (qI_q hSn (k := 13) (k' := 14) (h := h286) (by decide) rfl (by decide) rfl ((6 * (10 * k_e + k3)) + ((mt_m t4).length)) ((6 * (10 * k_e + k3)) + ((mt_m t4).length)) (o)).trans ((if_neg (fun e => absurd e.1 (by decide))).trans c_13_286)
                                                        have hth := (xI_q hSn (k := 14) (h := h286) (by decide) rfl 0 ((6 * (10 * k_e + k3)) + ((mt_m t4).length)) (o)).trans hth
                                                        have c_14_287 : jv_I (jv_wI h286 (q 14) ((6 * (10 * k_e + k3)) + ((mt_m t4).length)) o) (q 14) ((6 * (10 * k_e + k3)) + ((mt_m t4).length)) = o := jv_I_self _ _ _ _
                                                        generalize jv_wI h286 (q 14) ((6 * (10 * k_e + k3)) + ((mt_m t4).length)) o = h287 at hF hSn2 c2 c_12_284 c_13_286 hth c_14_287 ⊢
                                                        clear hSn; have hSn := hSn2; clear hSn2
                                                        refine jv_aload_n (q := 324) G 4 dX8_member_323 rfl rfl rfl ?_
                                                        refine jv_getQ (q := 327) G dX8_member_324 fl_X8_50 rfl hSn.1 (rf_p15 hSn) rfl ?_
                                                        refine jv_iload (q := 329) G 0 dX8_member_327 rfl rfl ?_
                                                        refine jv_iload (q := 331) G 9 dX8_member_329 rfl rfl ?_
                                                        refine jv_iast (q := 332) G dX8_member_331 (rf_a15 hSn) rfl (by omega) (by decide) rfl ?_
                                                        have hF := hF.wq hS (k := 15) (j := (6 * (10 * k_e + k3)) + ((mt_m t4).length)) (by decide) rfl (Or.inr ⟨by unfold k_m; omega, rfl⟩) (s)
                                                        have hSn2 := hF.S hS
                                                        have c2 := (qI_q hSn (k := 2) (k' := 15) (h := h287) (by decide) rfl (by decide) rfl (k_e) ((6 * (10 * k_e + k3)) + ((mt_m t4).length)) (s)).trans ((if_neg (fun e => absurd e.1 (by decide))).trans c2)
                                                        have c_12_284 := (qI_q hSn (k := 12) (k' := 15) (h := h287) (by decide) rfl (by decide) rfl (10 * k_e + k3) ((6 * (10 * k_e + k3)) + ((mt_m t4).length)) (s)).trans ((if_neg (fun e => absurd e.1 (by decide))).trans c_12_284)
                                                        have c_13_286 := (qI_q hSn (k := 13) (k' := 15) (h := h287) (by decide) rfl (by decide) rfl ((6 * (10 * k_e + k3)) + ((mt_m t4).length)) ((6 * (10 * k_e + k3)) + ((mt_m t4).length)) (s)).trans ((if_neg (fun e => absurd e.1 (by decide))).trans c_13_286)
                                                        have c_14_287 := (qI_q hSn (k := 14) (k' := 15) (h := h287) (by decide) rfl (by decide) rfl ((6 * (10 * k_e + k3)) + ((mt_m t4).length)) ((6 * (10 * k_e + k3)) + ((mt_m t4).length)) (s)).trans ((if_neg (fun e => absurd e.1 (by decide))).trans c_14_287)
                                                        have hth := (xI_q hSn (k := 15) (h := h287) (by decide) rfl 0 ((6 * (10 * k_e + k3)) + ((mt_m t4).length)) (s)).trans hth
                                                        have c_15_288 : jv_I (jv_wI h287 (q 15) ((6 * (10 * k_e + k3)) + ((mt_m t4).length)) s) (q 15) ((6 * (10 * k_e + k3)) + ((mt_m t4).length)) = s := jv_I_self _ _ _ _
                                                        generalize jv_wI h287 (q 15) ((6 * (10 * k_e + k3)) + ((mt_m t4).length)) s = h288 at hF hSn2 c2 c_12_284 c_13_286 c_14_287 hth c_15_288 ⊢
                                                        clear hSn; have hSn := hSn2; clear hSn2
                                                        refine jv_aload_n (q := 333) G 4 dX8_member_332 rfl rfl rfl ?_
                                                        refine jv_getQ (q := 336) G dX8_member_333 fl_X8_53 rfl hSn.1 (rf_p16 hSn) rfl ?_
                                                        refine jv_iload (q := 338) G 0 dX8_member_336 rfl rfl ?_
                                                        refine jv_iload (q := 340) G 10 dX8_member_338 rfl rfl ?_
                                                        refine jv_iast (q := 341) G dX8_member_340 (rf_a16 hSn) rfl (by omega) (by decide) rfl ?_
                                                        have hF := hF.wq hS (k := 16) (j := (6 * (10 * k_e + k3)) + ((mt_m t4).length)) (by decide) rfl (Or.inr ⟨by unfold k_m; omega, rfl⟩) (nI 3)
                                                        have hSn2 := hF.S hS
                                                        have c2 := (qI_q hSn (k := 2) (k' := 16) (h := h288) (by decide) rfl (by decide) rfl (k_e) ((6 * (10 * k_e + k3)) + ((mt_m t4).length)) (nI 3)).trans ((if_neg (fun e => absurd e.1 (by decide))).trans c2)
                                                        have c_12_284 := (qI_q hSn (k := 12) (k' := 16) (h := h288) (by decide) rfl (by decide) rfl (10 * k_e + k3) ((6 * (10 * k_e + k3)) + ((mt_m t4).length)) (nI 3)).trans ((if_neg (fun e => absurd e.1 (by decide))).trans c_12_284)
                                                        have c_13_286 := (qI_q hSn (k := 13) (k' := 16) (h := h288) (by decide) rfl (by decide) rfl ((6 * (10 * k_e + k3)) + ((mt_m t4).length)) ((6 * (10 * k_e + k3)) + ((mt_m t4).length)) (nI 3)).trans ((if_neg (fun e => absurd e.1 (by decide))).trans c_13_286)
                                                        have c_14_287 := (qI_q hSn (k := 14) (k' := 16) (h := h288) (by decide) rfl (by decide) rfl ((6 * (10 * k_e + k3)) + ((mt_m t4).length)) ((6 * (10 * k_e + k3)) + ((mt_m t4).length)) (nI 3)).trans ((if_neg (fun e => absurd e.1 (by decide))).trans c_14_287)
                                                        have c_15_288 := (qI_q hSn (k := 15) (k' := 16) (h := h288) (by decide) rfl (by decide) rfl ((6 * (10 * k_e + k3)) + ((mt_m t4).length)) ((6 * (10 * k_e + k3)) + ((mt_m t4).length)) (nI 3)).trans ((if_neg (fun e => absurd e.1 (by decide))).trans c_15_288)
                                                        have hth := (xI_q hSn (k := 16) (h := h288) (by decide) rfl 0 ((6 * (10 * k_e + k3)) + ((mt_m t4).length)) (nI 3)).trans hth
                                                        have c_16_289 : jv_I (jv_wI h288 (q 16) ((6 * (10 * k_e + k3)) + ((mt_m t4).length)) (nI 3)) (q 16) ((6 * (10 * k_e + k3)) + ((mt_m t4).length)) = nI 3 := jv_I_self _ _ _ _
                                                        generalize jv_wI h288 (q 16) ((6 * (10 * k_e + k3)) + ((mt_m t4).length)) (nI 3) = h289 at hF hSn2 c2 c_12_284 c_13_286 c_14_287 c_15_288 hth c_16_289 ⊢
                                                        clear hSn; have hSn := hSn2; clear hSn2
                                                        refine jv_aload_n (q := 342) G 4 dX8_member_341 rfl rfl rfl ?_
                                                        refine jv_getQ (q := 345) G dX8_member_342 fl_X8_56 rfl hSn.1 (rf_p17 hSn) rfl ?_
                                                        refine jv_iload (q := 347) G 0 dX8_member_345 rfl rfl ?_
                                                        refine jv_iload (q := 349) G 11 dX8_member_347 rfl rfl ?_
                                                        refine jv_zast (q := 350) G dX8_member_349 (rf_a17 hSn) rfl (by omega) (by decide) rfl ?_
                                                        have hF := hF.wq hS (k := 17) (j := (6 * (10 * k_e + k3)) + ((mt_m t4).length)) (by decide) rfl (Or.inr ⟨by unfold k_m; omega, rfl⟩) (jv_bI st)
                                                        have hSn2 := hF.S hS
                                                        have c2 := (qI_q hSn (k := 2) (k' := 17) (h := h289) (by decide) rfl (by decide) rfl (k_e) ((6 * (10 * k_e + k3)) + ((mt_m t4).length)) (jv_bI st)).trans ((if_neg (fun e => absurd e.1 (by decide))).trans c2)
                                                        have c_12_284 := (qI_q hSn (k := 12) (k' := 17) (h := h289) (by decide) rfl (by decide) rfl (10 * k_e + k3) ((6 * (10 * k_e + k3)) + ((mt_m t4).length)) (jv_bI st)).trans ((if_neg (fun e => absurd e.1 (by decide))).trans c_12_284)
                                                        have c_13_286 := (qI_q hSn (k := 13) (k' := 17) (h := h289) (by decide) rfl (by decide) rfl ((6 * (10 * k_e + k3)) + ((mt_m t4).length)) ((6 * (10 * k_e + k3)) + ((mt_m t4).length)) (jv_bI st)).trans ((if_neg (fun e => absurd e.1 (by decide))).trans c_13_286)
                                                        have c_14_287 := (qI_q hSn (k := 14) (k' := 17) (h := h289) (by decide) rfl (by decide) rfl ((6 * (10 * k_e + k3)) + ((mt_m t4).length)) ((6 * (10 * k_e + k3)) + ((mt_m t4).length)) (jv_bI st)).trans ((if_neg (fun e => absurd e.1 (by decide))).trans c_14_287)
                                                        have c_15_288 := (qI_q hSn (k := 15) (k' := 17) (h := h289) (by decide) rfl (by decide) rfl ((6 * (10 * k_e + k3)) + ((mt_m t4).length)) ((6 * (10 * k_e + k3)) + ((mt_m t4).length)) (jv_bI st)).trans ((if_neg (fun e => absurd e.1 (by decide))).trans c_15_288)
                                                        have c_16_289 := (qI_q hSn (k := 16) (k' := 17) (h := h289) (by decide) rfl (by decide) rfl ((6 * (10 * k_e + k3)) + ((mt_m t4).length)) ((6 * (10 * k_e + k3)) + ((mt_m t4).length)) (jv_bI st)).trans ((if_neg (fun e => absurd e.1 (by decide))).trans c_16_289)
                                                        have hth := (xI_q hSn (k := 17) (h := h289) (by decide) rfl 0 ((6 * (10 * k_e + k3)) + ((mt_m t4).length)) (jv_bI st)).trans hth
                                                        have c_17_290 : jv_I (jv_wI h289 (q 17) ((6 * (10 * k_e + k3)) + ((mt_m t4).length)) (jv_bI st)) (q 17) ((6 * (10 * k_e + k3)) + ((mt_m t4).length)) = jv_bI st := jv_I_self _ _ _ _
                                                        generalize jv_wI h289 (q 17) ((6 * (10 * k_e + k3)) + ((mt_m t4).length)) (jv_bI st) = h290 at hF hSn2 c2 c_12_284 c_13_286 c_14_287 c_15_288 c_16_289 hth c_17_290 ⊢
                                                        clear hSn; have hSn := hSn2; clear hSn2
                                                        refine jv_aload_n (q := 351) G 4 dX8_member_350 rfl rfl rfl ?_
                                                        refine jv_getQ (q := 354) G dX8_member_351 fl_X8_59 rfl hSn.1 (rf_p18 hSn) rfl ?_
                                                        refine jv_iload (q := 356) G 0 dX8_member_354 rfl rfl ?_
                                                        refine jv_iload (q := 358) G 12 dX8_member_356 rfl rfl ?_
                                                        refine jv_iast (q := 359) G dX8_member_358 (rf_a18 hSn) rfl (by omega) (by decide) rfl ?_
                                                        have hF := hF.wq hS (k := 18) (j := (6 * (10 * k_e + k3)) + ((mt_m t4).length)) (by decide) rfl (Or.inr ⟨by unfold k_m; omega, rfl⟩) (b)
                                                        have hSn2 := hF.S hS
                                                        have c2 := (qI_q hSn (k := 2) (k' := 18) (h := h290) (by decide) rfl (by decide) rfl (k_e) ((6 * (10 * k_e + k3)) + ((mt_m t4).length)) (b)).trans ((if_neg (fun e => absurd e.1 (by decide))).trans c2)
                                                        have c_12_284 := (qI_q hSn (k := 12) (k' := 18) (h := h290) (by decide) rfl (by decide) rfl (10 * k_e + k3) ((6 * (10 * k_e + k3)) + ((mt_m t4).length)) (b)).trans ((if_neg (fun e => absurd e.1 (by decide))).trans c_12_284)
                                                        have c_13_286 := (qI_q hSn (k := 13) (k' := 18) (h := h290) (by decide) rfl (by decide) rfl ((6 * (10 * k_e + k3)) + ((mt_m t4).length)) ((6 * (10 * k_e + k3)) + ((mt_m t4).length)) (b)).trans ((if_neg (fun e => absurd e.1 (by decide))).trans c_13_286)
                                                        have c_14_287 := (qI_q hSn (k := 14) (k' := 18) (h := h290) (by decide) rfl (by decide) rfl ((6 * (10 * k_e + k3)) + ((mt_m t4).length)) ((6 * (10 * k_e + k3)) + ((mt_m t4).length)) (b)).trans ((if_neg (fun e => absurd e.1 (by decide))).trans c_14_287)
                                                        have c_15_288 := (qI_q hSn (k := 15) (k' := 18) (h := h290) (by decide) rfl (by decide) rfl ((6 * (10 * k_e + k3)) + ((mt_m t4).length)) ((6 * (10 * k_e + k3)) + ((mt_m t4).length)) (b)).trans ((if_neg (fun e => absurd e.1 (by decide))).trans c_15_288)
                                                        have c_16_289 := (qI_q hSn (k := 16) (k' := 18) (h := h290) (by decide) rfl (by decide) rfl ((6 * (10 * k_e + k3)) + ((mt_m t4).length)) ((6 * (10 * k_e + k3)) + ((mt_m t4).length)) (b)).trans ((if_neg (fun e => absurd e.1 (by decide))).trans c_16_289)
                                                        have c_17_290 := (qI_q hSn (k := 17) (k' := 18) (h := h290) (by decide) rfl (by decide) rfl ((6 * (10 * k_e + k3)) + ((mt_m t4).length)) ((6 * (10 * k_e + k3)) + ((mt_m t4).length)) (b)).trans ((if_neg (fun e => absurd e.1 (by decide))).trans c_17_290)
                                                        have hth := (xI_q hSn (k := 18) (h := h290) (by decide) rfl 0 ((6 * (10 * k_e + k3)) + ((mt_m t4).length)) (b)).trans hth
                                                        have c_18_291 : jv_I (jv_wI h290 (q 18) ((6 * (10 * k_e + k3)) + ((mt_m t4).length)) b) (q 18) ((6 * (10 * k_e + k3)) + ((mt_m t4).length)) = b := jv_I_self _ _ _ _
                                                        generalize jv_wI h290 (q 18) ((6 * (10 * k_e + k3)) + ((mt_m t4).length)) b = h291 at hF hSn2 c2 c_12_284 c_13_286 c_14_287 c_15_288 c_16_289 c_17_290 hth c_18_291 ⊢
                                                        clear hSn; have hSn := hSn2; clear hSn2
                                                        refine jv_aload_n (q := 360) G 4 dX8_member_359 rfl rfl rfl ?_
                                                        refine jv_getQ (q := 363) G dX8_member_360 fl_X8_62 rfl hSn.1 (rf_p19 hSn) rfl ?_
                                                        refine jv_iload (q := 365) G 0 dX8_member_363 rfl rfl ?_
                                                        refine jv_iload_n (q := 366) G 7 dX8_member_365 rfl rfl rfl ?_
                                                        refine jv_iconst (q := 367) (v := nI 2) G dX8_member_366 (by decide) rfl ?_
                                                        refine jv_icmp_neN (q := 370) (tgt := 374) G dX8_member_367 (by decide) rfl (by omega) (by omega) (fun c292 => ?_) (fun c292 => ?_)
                                                        · refine jv_iconst (q := 375) (v := nI 0) G dX8_member_374 (by decide) rfl ?_
                                                          refine jv_topI (y := jv_bI false) rfl ?_
                                                          refine jv_zast (q := 376) G dX8_member_375 (rf_a19 hSn) rfl (by omega) (by decide) rfl ?_
                                                          have hF := hF.wq hS (k := 19) (j := (6 * (10 * k_e + k3)) + ((mt_m t4).length)) (by decide) rfl (Or.inr ⟨by unfold k_m; omega, rfl⟩) (jv_bI false)
                                                          have hSn2 := hF.S hS
                                                          have c2 := (qI_q hSn (k := 2) (k' := 19) (h := h291) (by decide) rfl (by decide) rfl (k_e) ((6 * (10 * k_e + k3)) + ((mt_m t4).length)) (jv_bI false)).trans ((if_neg (fun e => absurd e.1 (by decide))).trans c2)
                                                          have c_12_284 := (qI_q hSn (k := 12) (k' := 19) (h := h291) (by decide) rfl (by decide) rfl (10 * k_e + k3) ((6 * (10 * k_e + k3)) + ((mt_m t4).length)) (jv_bI false)).trans ((if_neg (fun e => absurd e.1 (by decide))).trans c_12_284)
                                                          have c_13_286 := (qI_q hSn (k := 13) (k' := 19) (h := h291) (by decide) rfl (by decide) rfl ((6 * (10 * k_e + k3)) + ((mt_m t4).length)) ((6 * (10 * k_e + k3)) + ((mt_m t4).length)) (jv_bI false)).trans ((if_neg (fun e => absurd e.1 (by decide))).trans c_13_286)
                                                          have c_14_287 := (qI_q hSn (k := 14) (k' := 19) (h := h291) (by decide) rfl (by decide) rfl ((6 * (10 * k_e + k3)) + ((mt_m t4).length)) ((6 * (10 * k_e + k3)) + ((mt_m t4).length)) (jv_bI false)).trans ((if_neg (fun e => absurd e.1 (by decide))).trans c_14_287)
                                                          have c_15_288 := (qI_q hSn (k := 15) (k' := 19) (h := h291) (by decide) rfl (by decide) rfl ((6 * (10 * k_e + k3)) + ((mt_m t4).length)) ((6 * (10 * k_e + k3)) + ((mt_m t4).length)) (jv_bI false)).trans ((if_neg (fun e => absurd e.1 (by decide))).trans c_15_288)
                                                          have c_16_289 := (qI_q hSn (k := 16) (k' := 19) (h := h291) (by decide) rfl (by decide) rfl ((6 * (10 * k_e + k3)) + ((mt_m t4).length)) ((6 * (10 * k_e + k3)) + ((mt_m t4).length)) (jv_bI false)).trans ((if_neg (fun e => absurd e.1 (by decide))).trans c_16_289)
                                                          have c_17_290 := (qI_q hSn (k := 17) (k' := 19) (h := h291) (by decide) rfl (by decide) rfl ((6 * (10 * k_e + k3)) + ((mt_m t4).length)) ((6 * (10 * k_e + k3)) + ((mt_m t4).length)) (jv_bI false)).trans ((if_neg (fun e => absurd e.1 (by decide))).trans c_17_290)
                                                          have c_18_291 := (qI_q hSn (k := 18) (k' := 19) (h := h291) (by decide) rfl (by decide) rfl ((6 * (10 * k_e + k3)) + ((mt_m t4).length)) ((6 * (10 * k_e + k3)) + ((mt_m t4).length)) (jv_bI false)).trans ((if_neg (fun e => absurd e.1 (by decide))).trans c_18_291)
                                                          have hth := (xI_q hSn (k := 19) (h := h291) (by decide) rfl 0 ((6 * (10 * k_e + k3)) + ((mt_m t4).length)) (jv_bI false)).trans hth
                                                          have c_19_293 : jv_I (jv_wI h291 (q 19) ((6 * (10 * k_e + k3)) + ((mt_m t4).length)) (jv_bI false)) (q 19) ((6 * (10 * k_e + k3)) + ((mt_m t4).length)) = jv_bI false := jv_I_self _ _ _ _
                                                          generalize jv_wI h291 (q 19) ((6 * (10 * k_e + k3)) + ((mt_m t4).length)) (jv_bI false) = h293 at hF hSn2 c2 c_12_284 c_13_286 c_14_287 c_15_288 c_16_289 c_17_290 c_18_291 hth c_19_293 ⊢
                                                          clear hSn; have hSn := hSn2; clear hSn2
                                                          refine jv_aload_n (q := 377) G 4 dX8_member_376 rfl rfl rfl ?_
                                                          refine jv_getQ (q := 380) G dX8_member_377 fl_X8_41 rfl hSn.1 (rf_p12 hSn) rfl ?_
                                                          refine jv_iload (q := 382) G 3 dX8_member_380 rfl rfl ?_
                                                          refine jv_iald (q := 383) G dX8_member_382 (rf_a12 hSn) rfl (by omega) (by decide) c_12_284 rfl ?_
                                                          refine jv_iret G hr dX8_member_383 (Nat.le_of_ble_eq_true rfl) (Nat.le_of_ble_eq_true rfl) ?_
                                                          have hg : m_mbG t4 (nI 1) o s (nI 3) st b = true := by
                                                            unfold m_mbG; simp only [*, nI_21, nI_12, nI_102, eq_self,  if_true, if_false, Bool.false_eq_true, reduceIte, Bool.and_true, Bool.and_false, Bool.true_and, Bool.false_and, Bool.not_true, Bool.not_false, Bool.true_or, Bool.or_true, Bool.false_or, Option.isNone_some, Option.isNone_none, decide_true, decide_false]
                                                          have hM2 := rf_M.new (w1 := true) (w2 := false) hg (by simp only [*, nI_21, nI_12, nI_102, eq_self,  if_true, if_false, Bool.false_eq_true, reduceIte, Bool.and_true, Bool.and_false, Bool.true_and, Bool.false_and, Bool.not_true, Bool.not_false, Bool.true_or, Bool.or_true, Bool.false_or, Option.isNone_some, Option.isNone_none, decide_true, decide_false]) (by simp only [*, nI_21, nI_12, nI_102, eq_self,  if_true, if_false, Bool.false_eq_true, reduceIte, Bool.and_true, Bool.and_false, Bool.true_and, Bool.false_and, Bool.not_true, Bool.not_false, Bool.true_or, Bool.or_true, Bool.false_or, Option.isNone_some, Option.isNone_none, decide_true, decide_false]) c_13_286 c_14_287 c_15_288 c_16_289 c_17_290 c_18_291 c_19_293
                                                          have hT2 := rf_T.cM (Tt4) Ot4 (by have := Ot4.2.2.2.2.2.1; omega) hF c_12_284 hM2
                                                          refine pO.mk (th := 0) (r := nI ((mt_m t4).length + 1)) (M' := m_put M k_e (false, (ma_t M k_e).set k3 (m_tM t4 (mt_m t4 ++ [m_mbN (nI 1) o s (nI 3) st b])))) ?_ rfl hth (rf_R.ed hR hke hse (hF.mono (fun k j w => o_T_E (i := k3) (by omega) (by unfold k_m at w; unfold o_T k_t k_m; have := Ot4.2.2.2.2.2.1; omega)) (fun _ z => z)) c2 (hE.upd lt4 (hF.mono (W' := o_T (10 * k_e + k3)) (fun k j w => by unfold k_m at w; unfold o_T k_t k_m; have := Ot4.2.2.2.2.2.1; omega) (fun _ z => z)) hT2) (fun z => by cases z)) ((hrs.FW hS0).fr.tr hF.fr)
                                                          unfold m_mb
                                                          rw [m_opT_yes zke hse (by assumption) ht4, if_pos hg, if_neg (by omega)]
                                                        · omega
                                                    · omega
                                                  · refine jv_iconst (q := 255) (v := nI 4) G dX8_member_254 (by decide) rfl ?_
                                                    refine jv_goto (q := 259) G dX8_member_255 (by decide) ?_
                                                    refine jv_putI (q := 262) G dX8_member_259 fl_X8_122 rfl hS.1 rfl ?_
                                                    have hr1 : rs x q h1 (jv_wI h1 x 0 (nI 4)) := rs.rf.wI (nI 4) (Or.inl ⟨rfl, Or.inl rfl⟩)
                                                    have hth : jv_I (jv_wI h1 x 0 (nI 4)) x 0 = (nI 4) := jv_I_self _ _ _ _
                                                    have hR := hr1.R hR
                                                    have hrs := hrs.tr hr1
                                                    generalize jv_wI h1 x 0 (nI 4) = h294 at hth hR hrs ⊢
                                                    obtain ⟨hS, ⟨hn8, hn⟩, ⟨hm12, hm⟩, hD, hV, hCs⟩ := id hR
                                                    have hsc : sc x q h294 h294 := sc.rf
                                                    have hE := (hD k_e (by omega)).2
                                                    have Tt4 := (hE.2.2 k3 t4 ht4).1
                                                    refine jv_aload_n (q := 263) G 3 dX8_member_262 rfl rfl rfl ?_
                                                    refine jv_getI (q := 266) G dX8_member_263 fl_X8_122 rfl hS.1 hth rfl ?_
                                                    refine jv_if_leN (q := 269) (tgt := 271) G dX8_member_266 (by decide) rfl (by omega) (fun c295 => ?_) (fun c295 => ?_)
                                                    · omega
                                                    · refine jv_iconst (q := 270) (v := nI 0) G dX8_member_269 (by decide) rfl ?_
                                                      refine jv_iret G hr dX8_member_270 (Nat.le_of_ble_eq_true rfl) (Nat.le_of_ble_eq_true rfl) ?_
                                                      refine pO.no (M := M) hS0 ?_ rfl hth hR hrs
                                                      unfold m_mb; rw [m_opT_yes zke hse (by assumption) ht4]; unfold m_mbG
                                                      simp only [*, nI_21, nI_12, nI_102, eq_self,  if_true, if_false, Bool.false_eq_true, reduceIte, Bool.and_true, Bool.and_false, Bool.true_and, Bool.false_and, Bool.not_true, Bool.not_false, Bool.true_or, Bool.or_true, Bool.false_or, Option.isNone_some, Option.isNone_none, decide_true, decide_false]
                                                · omega
                                            · refine jv_topI (y := nI (6 * (10 * k_e + k3) + j276)) (by rw [hj278]; rfl) ?_
                                              obtain ⟨m277, hm277, wm277, nm277, sm277, lm277⟩ := m_own_some hj278
                                              have Mm277 := rt_m Tt4 hm277
                                              have Om277 := Ot4.2.2.2.2.2.2 m277 (List.mem_of_getElem? hm277)
                                              have Lm277 := Ot4.2.2.2.2.2.1
                                              have Bm277n := Om277.1; have Bm277s := Om277.2.1; have Bm277a := Om277.2.2.1
                                              refine jv_iconst (q := 222) (v := (-1)) G dX8_member_221 (by decide) rfl ?_
                                              refine jv_icmp_ne (q := 225) (tgt := 229) G dX8_member_222 (by decide) rfl (fun c296 => ?_) (fun c296 => ?_)
                                              · refine jv_iconst (q := 230) (v := nI 0) G dX8_member_229 (by decide) rfl ?_
                                                refine jv_istore (q := 232) (lo' := [(11, .int (nI 0)), (10, .int (nI 1)), (9, .int (nI (10 * k_e + k3))), (0, .ref x), (1, .int (nI k_e)), (2, .int n), (3, .int (nI 1)), (4, .int o), (5, .int s), (6, .int (nI 3)), (7, .int (jv_bI st)), (8, .int b)]) G dX8_member_230 (by decide) rfl rfl ?_
                                                refine jv_aload_n (q := 233) G 3 dX8_member_232 rfl rfl rfl ?_
                                                refine jv_iload (q := 235) G 0 dX8_member_233 rfl rfl ?_
                                                refine jv_if_neN (q := 238) (tgt := 242) G dX8_member_235 (by decide) rfl (by omega) (fun c297 => ?_) (fun c297 => ?_)
                                                · omega
                                                · refine jv_iconst (q := 239) (v := nI 3) G dX8_member_238 (by decide) rfl ?_
                                                  refine jv_goto (q := 259) G dX8_member_239 (by decide) ?_
                                                  refine jv_putI (q := 262) G dX8_member_259 fl_X8_122 rfl hS.1 rfl ?_
                                                  have hr1 : rs x q h1 (jv_wI h1 x 0 (nI 3)) := rs.rf.wI (nI 3) (Or.inl ⟨rfl, Or.inl rfl⟩)
                                                  have hth : jv_I (jv_wI h1 x 0 (nI 3)) x 0 = (nI 3) := jv_I_self _ _ _ _
                                                  have hR := hr1.R hR
                                                  have hrs := hrs.tr hr1
                                                  generalize jv_wI h1 x 0 (nI 3) = h298 at hth hR hrs ⊢
                                                  obtain ⟨hS, ⟨hn8, hn⟩, ⟨hm12, hm⟩, hD, hV, hCs⟩ := id hR
                                                  have hsc : sc x q h298 h298 := sc.rf
                                                  have hE := (hD k_e (by omega)).2
                                                  have Tt4 := (hE.2.2 k3 t4 ht4).1
                                                  refine jv_aload_n (q := 263) G 3 dX8_member_262 rfl rfl rfl ?_
                                                  refine jv_getI (q := 266) G dX8_member_263 fl_X8_122 rfl hS.1 hth rfl ?_
                                                  refine jv_if_leN (q := 269) (tgt := 271) G dX8_member_266 (by decide) rfl (by omega) (fun c299 => ?_) (fun c299 => ?_)
                                                  · omega
                                                  · refine jv_iconst (q := 270) (v := nI 0) G dX8_member_269 (by decide) rfl ?_
                                                    refine jv_iret G hr dX8_member_270 (Nat.le_of_ble_eq_true rfl) (Nat.le_of_ble_eq_true rfl) ?_
                                                    refine pO.no (M := M) hS0 ?_ rfl hth hR hrs
                                                    unfold m_mb; rw [m_opT_yes zke hse (by assumption) ht4]; unfold m_mbG
                                                    simp only [*, nI_21, nI_12, nI_102, eq_self,  if_true, if_false, Bool.false_eq_true, reduceIte, Bool.and_true, Bool.and_false, Bool.true_and, Bool.false_and, Bool.not_true, Bool.not_false, Bool.true_or, Bool.or_true, Bool.false_or, Option.isNone_some, Option.isNone_none, decide_true, decide_false]
                                              · exact absurd c296 (jv_nI_m1 (by omega))
                                      · omega
                              · omega
                          · subst c237
                            refine jv_iload (q := 129) G 10 dX8_member_127 rfl rfl ?_
                            refine jv_if_neB (q := 132) (tgt := 141) G dX8_member_129 (by decide) rfl (fun c300 => ?_) (fun c300 => ?_)
                            · subst c300
                              refine jv_iconst (q := 142) (v := nI 0) G dX8_member_141 (by decide) rfl ?_
                              refine jv_istore (q := 144) (lo' := [(11, .int (nI 0)), (10, .int (nI 1)), (9, .int (nI (10 * k_e + k3))), (0, .ref x), (1, .int (nI k_e)), (2, .int n), (3, .int (nI 1)), (4, .int o), (5, .int s), (6, .int a), (7, .int (jv_bI true)), (8, .int (-1))]) G dX8_member_142 (by decide) rfl rfl ?_
                              refine jv_iload (q := 146) G 0 dX8_member_144 rfl rfl ?_
                              refine jv_if_eqN (q := 149) (tgt := 158) G dX8_member_146 (by decide) rfl (by omega) (fun c301 => ?_) (fun c301 => ?_)
                              · refine jv_iload (q := 160) G 0 dX8_member_158 rfl rfl ?_
                                refine jv_if_eqN (q := 163) (tgt := 196) G dX8_member_160 (by decide) rfl (by omega) (fun c302 => ?_) (fun c302 => ?_)
                                · refine jv_iload (q := 198) G 0 dX8_member_196 rfl rfl ?_
                                  refine jv_if_eqN (q := 201) (tgt := 232) G dX8_member_198 (by decide) rfl (by omega) (fun c303 => ?_) (fun c303 => ?_)
                                  · refine jv_aload_n (q := 233) G 3 dX8_member_232 rfl rfl rfl ?_
                                    refine jv_iload (q := 235) G 0 dX8_member_233 rfl rfl ?_
                                    refine jv_if_neN (q := 238) (tgt := 242) G dX8_member_235 (by decide) rfl (by omega) (fun c304 => ?_) (fun c304 => ?_)
                                    · omega
                                    · refine jv_iconst (q := 239) (v := nI 3) G dX8_member_238 (by decide) rfl ?_
                                      refine jv_goto (q := 259) G dX8_member_239 (by decide) ?_
                                      refine jv_putI (q := 262) G dX8_member_259 fl_X8_122 rfl hS.1 rfl ?_
                                      have hr1 : rs x q h1 (jv_wI h1 x 0 (nI 3)) := rs.rf.wI (nI 3) (Or.inl ⟨rfl, Or.inl rfl⟩)
                                      have hth : jv_I (jv_wI h1 x 0 (nI 3)) x 0 = (nI 3) := jv_I_self _ _ _ _
                                      have hR := hr1.R hR
                                      have hrs := hrs.tr hr1
                                      generalize jv_wI h1 x 0 (nI 3) = h305 at hth hR hrs ⊢
                                      obtain ⟨hS, ⟨hn8, hn⟩, ⟨hm12, hm⟩, hD, hV, hCs⟩ := id hR
                                      have hsc : sc x q h305 h305 := sc.rf
                                      have hE := (hD k_e (by omega)).2
                                      have Tt4 := (hE.2.2 k3 t4 ht4).1
                                      refine jv_aload_n (q := 263) G 3 dX8_member_262 rfl rfl rfl ?_
                                      refine jv_getI (q := 266) G dX8_member_263 fl_X8_122 rfl hS.1 hth rfl ?_
                                      refine jv_if_leN (q := 269) (tgt := 271) G dX8_member_266 (by decide) rfl (by omega) (fun c306 => ?_) (fun c306 => ?_)
                                      · omega
                                      · refine jv_iconst (q := 270) (v := nI 0) G dX8_member_269 (by decide) rfl ?_
                                        refine jv_iret G hr dX8_member_270 (Nat.le_of_ble_eq_true rfl) (Nat.le_of_ble_eq_true rfl) ?_
                                        refine pO.no (M := M) hS0 ?_ rfl hth hR hrs
                                        unfold m_mb; rw [m_opT_yes zke hse (by assumption) ht4]; unfold m_mbG
                                        simp only [*, nI_21, nI_12, nI_102, eq_self,  if_true, if_false, Bool.false_eq_true, reduceIte, Bool.and_true, Bool.and_false, Bool.true_and, Bool.false_and, Bool.not_true, Bool.not_false, Bool.true_or, Bool.or_true, Bool.false_or, Option.isNone_some, Option.isNone_none, decide_true, decide_false]
                                  · omega
                                · omega
                              · omega
                            · subst c300
                              refine jv_iload (q := 134) G 9 dX8_member_132 rfl rfl ?_
                              refine jv_if_le (q := 137) (tgt := 141) G dX8_member_134 (by decide) rfl (fun c307 => ?_) (fun c307 => ?_)
                              · refine jv_iconst (q := 142) (v := nI 0) G dX8_member_141 (by decide) rfl ?_
                                refine jv_istore (q := 144) (lo' := [(11, .int (nI 0)), (10, .int (nI 1)), (9, .int (nI (10 * k_e + k3))), (0, .ref x), (1, .int (nI k_e)), (2, .int n), (3, .int (nI 1)), (4, .int o), (5, .int s), (6, .int a), (7, .int (jv_bI false)), (8, .int (-1))]) G dX8_member_142 (by decide) rfl rfl ?_
                                refine jv_iload (q := 146) G 0 dX8_member_144 rfl rfl ?_
                                refine jv_if_eqN (q := 149) (tgt := 158) G dX8_member_146 (by decide) rfl (by omega) (fun c308 => ?_) (fun c308 => ?_)
                                · refine jv_iload (q := 160) G 0 dX8_member_158 rfl rfl ?_
                                  refine jv_if_eqN (q := 163) (tgt := 196) G dX8_member_160 (by decide) rfl (by omega) (fun c309 => ?_) (fun c309 => ?_)
                                  · refine jv_iload (q := 198) G 0 dX8_member_196 rfl rfl ?_
                                    refine jv_if_eqN (q := 201) (tgt := 232) G dX8_member_198 (by decide) rfl (by omega) (fun c310 => ?_) (fun c310 => ?_)
                                    · refine jv_aload_n (q := 233) G 3 dX8_member_232 rfl rfl rfl ?_
                                      refine jv_iload (q := 235) G 0 dX8_member_233 rfl rfl ?_
                                      refine jv_if_neN (q := 238) (tgt := 242) G dX8_member_235 (by decide) rfl (by omega) (fun c311 => ?_) (fun c311 => ?_)
                                      · omega
                                      · refine jv_iconst (q := 239) (v := nI 3) G dX8_member_238 (by decide) rfl ?_
                                        refine jv_goto (q := 259) G dX8_member_239 (by decide) ?_
                                        refine jv_putI (q := 262) G dX8_member_259 fl_X8_122 rfl hS.1 rfl ?_
                                        have hr1 : rs x q h1 (jv_wI h1 x 0 (nI 3)) := rs.rf.wI (nI 3) (Or.inl ⟨rfl, Or.inl rfl⟩)
                                        have hth : jv_I (jv_wI h1 x 0 (nI 3)) x 0 = (nI 3) := jv_I_self _ _ _ _
                                        have hR := hr1.R hR
                                        have hrs := hrs.tr hr1
                                        generalize jv_wI h1 x 0 (nI 3) = h312 at hth hR hrs ⊢
                                        obtain ⟨hS, ⟨hn8, hn⟩, ⟨hm12, hm⟩, hD, hV, hCs⟩ := id hR
                                        have hsc : sc x q h312 h312 := sc.rf
                                        have hE := (hD k_e (by omega)).2
                                        have Tt4 := (hE.2.2 k3 t4 ht4).1
                                        refine jv_aload_n (q := 263) G 3 dX8_member_262 rfl rfl rfl ?_
                                        refine jv_getI (q := 266) G dX8_member_263 fl_X8_122 rfl hS.1 hth rfl ?_
                                        refine jv_if_leN (q := 269) (tgt := 271) G dX8_member_266 (by decide) rfl (by omega) (fun c313 => ?_) (fun c313 => ?_)
                                        · omega
                                        · refine jv_iconst (q := 270) (v := nI 0) G dX8_member_269 (by decide) rfl ?_
                                          refine jv_iret G hr dX8_member_270 (Nat.le_of_ble_eq_true rfl) (Nat.le_of_ble_eq_true rfl) ?_
                                          refine pO.no (M := M) hS0 ?_ rfl hth hR hrs
                                          unfold m_mb; rw [m_opT_yes zke hse (by assumption) ht4]; unfold m_mbG
                                          simp only [*, nI_21, nI_12, nI_102, eq_self,  if_true, if_false, Bool.false_eq_true, reduceIte, Bool.and_true, Bool.and_false, Bool.true_and, Bool.false_and, Bool.not_true, Bool.not_false, Bool.true_or, Bool.or_true, Bool.false_or, Option.isNone_some, Option.isNone_none, decide_true, decide_false]
                                    · omega
                                  · omega
                                · omega
                              · refine jv_iconst (q := 138) (v := nI 1) G dX8_member_137 (by decide) rfl ?_
                                refine jv_goto (q := 142) G dX8_member_138 (by decide) ?_
                                refine jv_istore (q := 144) (lo' := [(11, .int (nI 1)), (10, .int (nI 1)), (9, .int (nI (10 * k_e + k3))), (0, .ref x), (1, .int (nI k_e)), (2, .int n), (3, .int (nI 1)), (4, .int o), (5, .int s), (6, .int a), (7, .int (jv_bI false)), (8, .int (-1))]) G dX8_member_142 (by decide) rfl rfl ?_
                                refine jv_iload (q := 146) G 0 dX8_member_144 rfl rfl ?_
                                refine jv_if_eqN (q := 149) (tgt := 158) G dX8_member_146 (by decide) rfl (by omega) (fun c314 => ?_) (fun c314 => ?_)
                                · omega
                                · refine jv_iload_n (q := 150) G 6 dX8_member_149 rfl rfl rfl ?_
                                  refine jv_iconst (q := 151) (v := nI 2) G dX8_member_150 (by decide) rfl ?_
                                  refine jv_icmp_neN (q := 154) (tgt := 158) G dX8_member_151 (by decide) rfl (by omega) (by omega) (fun c315 => ?_) (fun c315 => ?_)
                                  · refine jv_iload (q := 160) G 0 dX8_member_158 rfl rfl ?_
                                    refine jv_if_eqN (q := 163) (tgt := 196) G dX8_member_160 (by decide) rfl (by omega) (fun c316 => ?_) (fun c316 => ?_)
                                    · omega
                                    · refine jv_aload_n (q := 164) G 3 dX8_member_163 rfl rfl rfl ?_
                                      refine jv_getQ (q := 167) G dX8_member_164 fl_X8_20 rfl hS.1 (rf_p5 hS) rfl ?_
                                      refine jv_iload (q := 169) G 2 dX8_member_167 rfl rfl ?_
                                      refine jv_zald (q := 170) G dX8_member_169 (rf_a5 hS) rfl (by omega) (by decide) (rt_5 (hsc.T hS Tt4)) rfl ?_
                                      refine jv_if_eqB (q := 173) (tgt := 196) G dX8_member_170 (by decide) rfl (fun c317 => ?_) (fun c317 => ?_)
                                      · refine jv_iload (q := 198) G 0 dX8_member_196 rfl rfl ?_
                                        refine jv_if_eqN (q := 201) (tgt := 232) G dX8_member_198 (by decide) rfl (by omega) (fun c318 => ?_) (fun c318 => ?_)
                                        · omega
                                        · refine jv_aload_n (q := 202) G 3 dX8_member_201 rfl rfl rfl ?_
                                          refine jv_iload (q := 204) G 2 dX8_member_202 rfl rfl ?_
                                          refine jv_iload (q := 206) G 1 dX8_member_204 rfl rfl ?_
                                          refine jv_if_eqN (q := 209) (tgt := 213) G dX8_member_206 (by decide) rfl (by omega) (fun c319 => ?_) (fun c319 => ?_)
                                          · omega
                                          · refine jv_iconst (q := 210) (v := nI 1) G dX8_member_209 (by decide) rfl ?_
                                            refine jv_goto (q := 214) G dX8_member_210 (by decide) ?_
                                            refine jv_iload (q := 216) G 7 dX8_member_214 rfl rfl ?_
                                            refine jv_iload (q := 218) G 8 dX8_member_216 rfl rfl ?_
                                            refine jv_callV_I (q := 221) (h1 := h1) (As := [.int (nI (10 * k_e + k3)), .int (nI 1), .int o, .int s]) (rest := []) (ce' := 0) (sl' := 0) (r := jv_oN ((m_own t4 (nI 1) o s).map (fun j => 6 * (10 * k_e + k3) + j))) G Z ml_X8_155 (r_own hlt (hsc.S hS) (by omega) (hsc.T hS Tt4) Ot4) hS.1 dX8_member_218 rfl (by decide) (by decide) (by decide) (by decide) (Nat.le_of_ble_eq_true rfl) rfl rfl rfl rfl ?_
                                            rcases Option.eq_none_or_eq_some (m_own t4 (nI 1) o s) with hj322 | ⟨j320, hj322⟩
                                            · refine jv_topI (y := (-1)) (by rw [hj322]; rfl) ?_
                                              refine jv_iconst (q := 222) (v := (-1)) G dX8_member_221 (by decide) rfl ?_
                                              refine jv_icmp_ne (q := 225) (tgt := 229) G dX8_member_222 (by decide) rfl (fun c323 => ?_) (fun c323 => ?_)
                                              · exact absurd rfl c323
                                              · refine jv_iconst (q := 226) (v := nI 1) G dX8_member_225 (by decide) rfl ?_
                                                refine jv_goto (q := 230) G dX8_member_226 (by decide) ?_
                                                refine jv_istore (q := 232) (lo' := [(11, .int (nI 1)), (10, .int (nI 1)), (9, .int (nI (10 * k_e + k3))), (0, .ref x), (1, .int (nI k_e)), (2, .int n), (3, .int (nI 1)), (4, .int o), (5, .int s), (6, .int a), (7, .int (jv_bI false)), (8, .int (-1))]) G dX8_member_230 (by decide) rfl rfl ?_
                                                refine jv_aload_n (q := 233) G 3 dX8_member_232 rfl rfl rfl ?_
                                                refine jv_iload (q := 235) G 0 dX8_member_233 rfl rfl ?_
                                                refine jv_if_neN (q := 238) (tgt := 242) G dX8_member_235 (by decide) rfl (by omega) (fun c324 => ?_) (fun c324 => ?_)
                                                · refine jv_aload_n (q := 243) G 3 dX8_member_242 rfl rfl rfl ?_
                                                  refine jv_getQ (q := 246) G dX8_member_243 fl_X8_41 rfl hS.1 (rf_p12 hS) rfl ?_
                                                  refine jv_iload (q := 248) G 2 dX8_member_246 rfl rfl ?_
                                                  refine jv_iald (q := 249) G dX8_member_248 (rf_a12 hS) rfl (by omega) (by decide) (rt_12 (hsc.T hS Tt4)) rfl ?_
                                                  refine jv_bipush (q := 251) (v := nI 6) G dX8_member_249 (by decide) rfl ?_
                                                  refine jv_icmp_neN (q := 254) (tgt := 258) G dX8_member_251 (by decide) rfl (by omega) (by omega) (fun c325 => ?_) (fun c325 => ?_)
                                                  · refine jv_iconst (q := 259) (v := nI 0) G dX8_member_258 (by decide) rfl ?_
                                                    refine jv_putI (q := 262) G dX8_member_259 fl_X8_122 rfl hS.1 rfl ?_
                                                    have hr1 : rs x q h1 (jv_wI h1 x 0 (nI 0)) := rs.rf.wI (nI 0) (Or.inl ⟨rfl, Or.inl rfl⟩)
                                                    have hth : jv_I (jv_wI h1 x 0 (nI 0)) x 0 = (nI 0) := jv_I_self _ _ _ _
                                                    have hR := hr1.R hR
                                                    have hrs := hrs.tr hr1
                                                    generalize jv_wI h1 x 0 (nI 0) = h326 at hth hR hrs ⊢
                                                    obtain ⟨hS, ⟨hn8, hn⟩, ⟨hm12, hm⟩, hD, hV, hCs⟩ := id hR
                                                    have hsc : sc x q h326 h326 := sc.rf
                                                    have hE := (hD k_e (by omega)).2
                                                    have Tt4 := (hE.2.2 k3 t4 ht4).1
                                                    refine jv_aload_n (q := 263) G 3 dX8_member_262 rfl rfl rfl ?_
                                                    refine jv_getI (q := 266) G dX8_member_263 fl_X8_122 rfl hS.1 hth rfl ?_
                                                    refine jv_if_leN (q := 269) (tgt := 271) G dX8_member_266 (by decide) rfl (by omega) (fun c327 => ?_) (fun c327 => ?_)
                                                    · have c2 : jv_I h326 (q 2) k_e = jv_bI false := (hD k_e (by omega)).1.trans (by rw [hse])
                                                      have c12 := rt_12 Tt4
                                                      have hl6 := Ot4.2.2.2.2.2.1
                                                      have hF : FW (fun k j => (k = 12 ∧ j = 10 * k_e + k3) ∨ (k_m k ∧ j = 6 * (10 * k_e + k3) + (mt_m t4).length)) xcr x q h326 h326 := FW.rf
                                                      have hSn := hS
                                                      refine jv_bipush (q := 273) (v := nI 6) G dX8_member_271 (by decide) rfl ?_
                                                      refine jv_iload (q := 275) G 2 dX8_member_273 rfl rfl ?_
                                                      refine jv_imulN (q := 276) G dX8_member_275 rfl ?_
                                                      refine jv_aload_n (q := 277) G 3 dX8_member_276 rfl rfl rfl ?_
                                                      refine jv_getQ (q := 280) G dX8_member_277 fl_X8_41 rfl hS.1 (rf_p12 hS) rfl ?_
                                                      refine jv_iload (q := 282) G 2 dX8_member_280 rfl rfl ?_
                                                      refine jv_iald (q := 283) G dX8_member_282 (rf_a12 hS) rfl (by omega) (by decide) (rt_12 (hsc.T hS Tt4)) rfl ?_
                                                      refine jv_iaddN (q := 284) G dX8_member_283 rfl ?_
                                                      refine jv_istore (q := 286) (lo' := [(12, .int (nI ((6 * (10 * k_e + k3)) + ((mt_m t4).length)))), (11, .int (nI 1)), (10, .int (nI 1)), (9, .int (nI (10 * k_e + k3))), (0, .ref x), (1, .int (nI k_e)), (2, .int n), (3, .int (nI 1)), (4, .int o), (5, .int s), (6, .int a), (7, .int (jv_bI false)), (8, .int (-1))]) G dX8_member_284 (by decide) rfl rfl ?_
                                                      refine jv_aload_n (q := 287) G 4 dX8_member_286 rfl rfl rfl ?_
                                                      refine jv_getQ (q := 290) G dX8_member_287 fl_X8_41 rfl hS.1 (rf_p12 hS) rfl ?_
                                                      refine jv_iload (q := 292) G 3 dX8_member_290 rfl rfl ?_
                                                      refine jv_dup2 (q := 293) G dX8_member_292 rfl rfl rfl ?_
                                                      refine jv_iald (q := 294) G dX8_member_293 (rf_a12 hS) rfl (by omega) (by decide) (rt_12 (hsc.T hS Tt4)) rfl ?_
                                                      refine jv_iconst (q := 295) (v := nI 1) G dX8_member_294 (by decide) rfl ?_
                                                      refine jv_iaddN (q := 296) G dX8_member_295 rfl ?_
                                                      refine jv_iast (q := 297) G dX8_member_296 (rf_a12 hS) rfl (by omega) (by decide) rfl ?_
                                                      have hF := hF.wq hS (k := 12) (j := 10 * k_e + k3) (by decide) rfl (Or.inl ⟨rfl, rfl⟩) (nI (((mt_m t4).length) + 1))
                                                      have hSn2 := hF.S hS
                                                      have c2 := (qI_q hSn (k := 2) (k' := 12) (h := h326) (by decide) rfl (by decide) rfl (k_e) (10 * k_e + k3) (nI (((mt_m t4).length) + 1))).trans ((if_neg (fun e => absurd e.1 (by decide))).trans c2)
                                                      have hth := (xI_q hSn (k := 12) (h := h326) (by decide) rfl 0 (10 * k_e + k3) (nI (((mt_m t4).length) + 1))).trans hth
                                                      have c_12_328 : jv_I (jv_wI h326 (q 12) (10 * k_e + k3) (nI (((mt_m t4).length) + 1))) (q 12) (10 * k_e + k3) = nI (((mt_m t4).length) + 1) := jv_I_self _ _ _ _
                                                      generalize jv_wI h326 (q 12) (10 * k_e + k3) (nI (((mt_m t4).length) + 1)) = h328 at hF hSn2 c2 hth c_12_328 ⊢
                                                      clear hSn; have hSn := hSn2; clear hSn2
                                                      refine jv_aload_n (q := 298) G 4 dX8_member_297 rfl rfl rfl ?_
                                                      refine jv_getQ (q := 301) G dX8_member_298 fl_X8_44 rfl hSn.1 (rf_p13 hSn) rfl ?_
                                                      refine jv_iload (q := 303) G 0 dX8_member_301 rfl rfl ?_
                                                      refine jv_iload (q := 305) G 2 dX8_member_303 rfl rfl ?_
                                                      refine jv_if_eqN (q := 308) (tgt := 312) G dX8_member_305 (by decide) rfl (by omega) (fun c329 => ?_) (fun c329 => ?_)
                                                      · omega
                                                      · refine jv_iconst (q := 309) (v := nI 1) G dX8_member_308 (by decide) rfl ?_
                                                        refine jv_goto (q := 313) G dX8_member_309 (by decide) ?_
                                                        refine jv_iast (q := 314) G dX8_member_313 (rf_a13 hSn) rfl (by omega) (by decide) rfl ?_
                                                        have hF := hF.wq hS (k := 13) (j := (6 * (10 * k_e + k3)) + ((mt_m t4).length)) (by decide) rfl (Or.inr ⟨by unfold k_m; omega, rfl⟩) (nI 1)
                                                        have hSn2 := hF.S hS
                                                        have c2 := (qI_q hSn (k := 2) (k' := 13) (h := h328) (by decide) rfl (by decide) rfl (k_e) ((6 * (10 * k_e + k3)) + ((mt_m t4).length)) (nI 1)).trans ((if_neg (fun e => absurd e.1 (by decide))).trans c2)
                                                        have c_12_328 := (qI_q hSn (k := 12) (k' := 13) (h := h328) (by decide) rfl (by decide) rfl (10 * k_e + k3) ((6 * (10 * k_e + k3)) + ((mt_m t4).length)) (nI 1)).trans ((if_neg (fun e => absurd e.1 (by decide))).trans c_12_328)
                                                        have hth := (xI_q hSn (k := 13) (h := h328) (by decide) rfl 0 ((6 * (10 * k_e + k3)) + ((mt_m t4).length)) (nI 1)).trans hth
                                                        have c_13_330 : jv_I (jv_wI h328 (q 13) ((6 * (10 * k_e + k3)) + ((mt_m t4).length)) (nI 1)) (q 13) ((6 * (10 * k_e + k3)) + ((mt_m t4).length)) = nI 1 := jv_I_self _ _ _ _
                                                        generalize jv_wI h328 (q 13) ((6 * (10 * k_e + k3)) + ((mt_m t4).length)) (nI 1) = h330 at hF hSn2 c2 c_12_328 hth c_13_330 ⊢
                                                        clear hSn; have hSn := hSn2; clear hSn2
                                                        refine jv_aload_n (q := 315) G 4 dX8_member_314 rfl rfl rfl ?_
                                                        refine jv_getQ (q := 318) G dX8_member_315 fl_X8_47 rfl hSn.1 (rf_p14 hSn) rfl ?_
                                                        refine jv_iload (q := 320) G 0 dX8_member_318 rfl rfl ?_
                                                        refine jv_iload (q := 322) G 8 dX8_member_320 rfl rfl ?_
                                                        refine jv_iast (q := 323) G dX8_member_322 (rf_a14 hSn) rfl (by omega) (by decide) rfl ?_
                                                        have hF := hF.wq hS (k := 14) (j := (6 * (10 * k_e + k3)) + ((mt_m t4).length)) (by decide) rfl (Or.inr ⟨by unfold k_m; omega, rfl⟩) (o)
                                                        have hSn2 := hF.S hS
                                                        have c2 := (qI_q hSn (k := 2) (k' := 14) (h := h330) (by decide) rfl (by decide) rfl (k_e) ((6 * (10 * k_e + k3)) + ((mt_m t4).length)) (o)).trans ((if_neg (fun e => absurd e.1 (by decide))).trans c2)
                                                        have c_12_328 := (qI_q hSn (k := 12) (k' := 14) (h := h330) (by decide) rfl (by decide) rfl (10 * k_e + k3) ((6 * (10 * k_e + k3)) + ((mt_m t4).length)) (o)).trans ((if_neg (fun e => absurd e.1 (by decide))).trans c_12_328)
                                                        have c_13_330 := (qI_q hSn (k := 13) (k' := 14) (h := h330) (by decide) rfl (by decide) rfl ((6 * (10 * k_e + k3)) + ((mt_m t4).length)) ((6 * (10 * k_e + k3)) + ((mt_m t4).length)) (o)).trans ((if_neg (fun e => absurd e.1 (by decide))).trans c_13_330)
                                                        have hth := (xI_q hSn (k := 14) (h := h330) (by decide) rfl 0 ((6 * (10 * k_e + k3)) + ((mt_m t4).length)) (o)).trans hth
                                                        have c_14_331 : jv_I (jv_wI h330 (q 14) ((6 * (10 * k_e + k3)) + ((mt_m t4).length)) o) (q 14) ((6 * (10 * k_e + k3)) + ((mt_m t4).length)) = o := jv_I_self _ _ _ _
                                                        generalize jv_wI h330 (q 14) ((6 * (10 * k_e + k3)) + ((mt_m t4).length)) o = h331 at hF hSn2 c2 c_12_328 c_13_330 hth c_14_331 ⊢
                                                        clear hSn; have hSn := hSn2; clear hSn2
                                                        refine jv_aload_n (q := 324) G 4 dX8_member_323 rfl rfl rfl ?_
                                                        refine jv_getQ (q := 327) G dX8_member_324 fl_X8_50 rfl hSn.1 (rf_p15 hSn) rfl ?_
                                                        refine jv_iload (q := 329) G 0 dX8_member_327 rfl rfl ?_
                                                        refine jv_iload (q := 331) G 9 dX8_member_329 rfl rfl ?_
                                                        refine jv_iast (q := 332) G dX8_member_331 (rf_a15 hSn) rfl (by omega) (by decide) rfl ?_
                                                        have hF := hF.wq hS (k := 15) (j := (6 * (10 * k_e + k3)) + ((mt_m t4).length)) (by decide) rfl (Or.inr ⟨by unfold k_m; omega, rfl⟩) (s)
                                                        have hSn2 := hF.S hS
                                                        have c2 := (qI_q hSn (k := 2) (k' := 15) (h := h331) (by decide) rfl (by decide) rfl (k_e) ((6 * (10 * k_e + k3)) + ((mt_m t4).length)) (s)).trans ((if_neg (fun e => absurd e.1 (by decide))).trans c2)
                                                        have c_12_328 := (qI_q hSn (k := 12) (k' := 15) (h := h331) (by decide) rfl (by decide) rfl (10 * k_e + k3) ((6 * (10 * k_e + k3)) + ((mt_m t4).length)) (s)).trans ((if_neg (fun e => absurd e.1 (by decide))).trans c_12_328)
                                                        have c_13_330 := (qI_q hSn (k := 13) (k' := 15) (h := h331) (by decide) rfl (by decide) rfl ((6 * (10 * k_e + k3)) + ((mt_m t4).length)) ((6 * (10 * k_e + k3)) + ((mt_m t4).length)) (s)).trans ((if_neg (fun e => absurd e.1 (by decide))).trans c_13_330)
                                                        have c_14_331 := (qI_q hSn (k := 14) (k' := 15) (h := h331) (by decide) rfl (by decide) rfl ((6 * (10 * k_e + k3)) + ((mt_m t4).length)) ((6 * (10 * k_e + k3)) + ((mt_m t4).length)) (s)).trans ((if_neg (fun e => absurd e.1 (by decide))).trans c_14_331)
                                                        have hth := (xI_q hSn (k := 15) (h := h331) (by decide) rfl 0 ((6 * (10 * k_e + k3)) + ((mt_m t4).length)) (s)).trans hth
                                                        have c_15_332 : jv_I (jv_wI h331 (q 15) ((6 * (10 * k_e + k3)) + ((mt_m t4).length)) s) (q 15) ((6 * (10 * k_e + k3)) + ((mt_m t4).length)) = s := jv_I_self _ _ _ _
                                                        generalize jv_wI h331 (q 15) ((6 * (10 * k_e + k3)) + ((mt_m t4).length)) s = h332 at hF hSn2 c2 c_12_328 c_13_330 c_14_331 hth c_15_332 ⊢
                                                        clear hSn; have hSn := hSn2; clear hSn2
                                                        refine jv_aload_n (q := 333) G 4 dX8_member_332 rfl rfl rfl ?_
                                                        refine jv_getQ (q := 336) G dX8_member_333 fl_X8_53 rfl hSn.1 (rf_p16 hSn) rfl ?_
                                                        refine jv_iload (q := 338) G 0 dX8_member_336 rfl rfl ?_
                                                        refine jv_iload (q := 340) G 10 dX8_member_338 rfl rfl ?_
                                                        refine jv_iast (q := 341) G dX8_member_340 (rf_a16 hSn) rfl (by omega) (by decide) rfl ?_
                                                        have hF := hF.wq hS (k := 16) (j := (6 * (10 * k_e + k3)) + ((mt_m t4).length)) (by decide) rfl (Or.inr ⟨by unfold k_m; omega, rfl⟩) (a)
                                                        have hSn2 := hF.S hS
                                                        have c2 := (qI_q hSn (k := 2) (k' := 16) (h := h332) (by decide) rfl (by decide) rfl (k_e) ((6 * (10 * k_e + k3)) + ((mt_m t4).length)) (a)).trans ((if_neg (fun e => absurd e.1 (by decide))).trans c2)
                                                        have c_12_328 := (qI_q hSn (k := 12) (k' := 16) (h := h332) (by decide) rfl (by decide) rfl (10 * k_e + k3) ((6 * (10 * k_e + k3)) + ((mt_m t4).length)) (a)).trans ((if_neg (fun e => absurd e.1 (by decide))).trans c_12_328)
                                                        have c_13_330 := (qI_q hSn (k := 13) (k' := 16) (h := h332) (by decide) rfl (by decide) rfl ((6 * (10 * k_e + k3)) + ((mt_m t4).length)) ((6 * (10 * k_e + k3)) + ((mt_m t4).length)) (a)).trans ((if_neg (fun e => absurd e.1 (by decide))).trans c_13_330)
                                                        have c_14_331 := (qI_q hSn (k := 14) (k' := 16) (h := h332) (by decide) rfl (by decide) rfl ((6 * (10 * k_e + k3)) + ((mt_m t4).length)) ((6 * (10 * k_e + k3)) + ((mt_m t4).length)) (a)).trans ((if_neg (fun e => absurd e.1 (by decide))).trans c_14_331)
                                                        have c_15_332 := (qI_q hSn (k := 15) (k' := 16) (h := h332) (by decide) rfl (by decide) rfl ((6 * (10 * k_e + k3)) + ((mt_m t4).length)) ((6 * (10 * k_e + k3)) + ((mt_m t4).length)) (a)).trans ((if_neg (fun e => absurd e.1 (by decide))).trans c_15_332)
                                                        have hth := (xI_q hSn (k := 16) (h := h332) (by decide) rfl 0 ((6 * (10 * k_e + k3)) + ((mt_m t4).length)) (a)).trans hth
                                                        have c_16_333 : jv_I (jv_wI h332 (q 16) ((6 * (10 * k_e + k3)) + ((mt_m t4).length)) a) (q 16) ((6 * (10 * k_e + k3)) + ((mt_m t4).length)) = a := jv_I_self _ _ _ _
                                                        generalize jv_wI h332 (q 16) ((6 * (10 * k_e + k3)) + ((mt_m t4).length)) a = h333 at hF hSn2 c2 c_12_328 c_13_330 c_14_331 c_15_332 hth c_16_333 ⊢
                                                        clear hSn; have hSn := hSn2; clear hSn2
                                                        refine jv_aload_n (q := 342) G 4 dX8_member_341 rfl rfl rfl ?_
                                                        refine jv_getQ (q := 345) G dX8_member_342 fl_X8_56 rfl hSn.1 (rf_p17 hSn) rfl ?_
                                                        refine jv_iload (q := 347) G 0 dX8_member_345 rfl rfl ?_
                                                        refine jv_iload (q := 349) G 11 dX8_member_347 rfl rfl ?_
                                                        refine jv_zast (q := 350) G dX8_member_349 (rf_a17 hSn) rfl (by omega) (by decide) rfl ?_
                                                        have hF := hF.wq hS (k := 17) (j := (6 * (10 * k_e + k3)) + ((mt_m t4).length)) (by decide) rfl (Or.inr ⟨by unfold k_m; omega, rfl⟩) (jv_bI false)
                                                        have hSn2 := hF.S hS
                                                        have c2 := (qI_q hSn (k := 2) (k' := 17) (h := h333) (by decide) rfl (by decide) rfl (k_e) ((6 * (10 * k_e + k3)) + ((mt_m t4).length)) (jv_bI false)).trans ((if_neg (fun e => absurd e.1 (by decide))).trans c2)
                                                        have c_12_328 := (qI_q hSn (k := 12) (k' := 17) (h := h333) (by decide) rfl (by decide) rfl (10 * k_e + k3) ((6 * (10 * k_e + k3)) + ((mt_m t4).length)) (jv_bI false)).trans ((if_neg (fun e => absurd e.1 (by decide))).trans c_12_328)
                                                        have c_13_330 := (qI_q hSn (k := 13) (k' := 17) (h := h333) (by decide) rfl (by decide) rfl ((6 * (10 * k_e + k3)) + ((mt_m t4).length)) ((6 * (10 * k_e + k3)) + ((mt_m t4).length)) (jv_bI false)).trans ((if_neg (fun e => absurd e.1 (by decide))).trans c_13_330)
                                                        have c_14_331 := (qI_q hSn (k := 14) (k' := 17) (h := h333) (by decide) rfl (by decide) rfl ((6 * (10 * k_e + k3)) + ((mt_m t4).length)) ((6 * (10 * k_e + k3)) + ((mt_m t4).length)) (jv_bI false)).trans ((if_neg (fun e => absurd e.1 (by decide))).trans c_14_331)
                                                        have c_15_332 := (qI_q hSn (k := 15) (k' := 17) (h := h333) (by decide) rfl (by decide) rfl ((6 * (10 * k_e + k3)) + ((mt_m t4).length)) ((6 * (10 * k_e + k3)) + ((mt_m t4).length)) (jv_bI false)).trans ((if_neg (fun e => absurd e.1 (by decide))).trans c_15_332)
                                                        have c_16_333 := (qI_q hSn (k := 16) (k' := 17) (h := h333) (by decide) rfl (by decide) rfl ((6 * (10 * k_e + k3)) + ((mt_m t4).length)) ((6 * (10 * k_e + k3)) + ((mt_m t4).length)) (jv_bI false)).trans ((if_neg (fun e => absurd e.1 (by decide))).trans c_16_333)
                                                        have hth := (xI_q hSn (k := 17) (h := h333) (by decide) rfl 0 ((6 * (10 * k_e + k3)) + ((mt_m t4).length)) (jv_bI false)).trans hth
                                                        have c_17_334 : jv_I (jv_wI h333 (q 17) ((6 * (10 * k_e + k3)) + ((mt_m t4).length)) (jv_bI false)) (q 17) ((6 * (10 * k_e + k3)) + ((mt_m t4).length)) = jv_bI false := jv_I_self _ _ _ _
                                                        generalize jv_wI h333 (q 17) ((6 * (10 * k_e + k3)) + ((mt_m t4).length)) (jv_bI false) = h334 at hF hSn2 c2 c_12_328 c_13_330 c_14_331 c_15_332 c_16_333 hth c_17_334 ⊢
                                                        clear hSn; have hSn := hSn2; clear hSn2
                                                        refine jv_aload_n (q := 351) G 4 dX8_member_350 rfl rfl rfl ?_
                                                        refine jv_getQ (q := 354) G dX8_member_351 fl_X8_59 rfl hSn.1 (rf_p18 hSn) rfl ?_
                                                        refine jv_iload (q := 356) G 0 dX8_member_354 rfl rfl ?_
                                                        refine jv_iload (q := 358) G 12 dX8_member_356 rfl rfl ?_
                                                        refine jv_iast (q := 359) G dX8_member_358 (rf_a18 hSn) rfl (by omega) (by decide) rfl ?_
                                                        have hF := hF.wq hS (k := 18) (j := (6 * (10 * k_e + k3)) + ((mt_m t4).length)) (by decide) rfl (Or.inr ⟨by unfold k_m; omega, rfl⟩) (-1)
                                                        have hSn2 := hF.S hS
                                                        have c2 := (qI_q hSn (k := 2) (k' := 18) (h := h334) (by decide) rfl (by decide) rfl (k_e) ((6 * (10 * k_e + k3)) + ((mt_m t4).length)) (-1)).trans ((if_neg (fun e => absurd e.1 (by decide))).trans c2)
                                                        have c_12_328 := (qI_q hSn (k := 12) (k' := 18) (h := h334) (by decide) rfl (by decide) rfl (10 * k_e + k3) ((6 * (10 * k_e + k3)) + ((mt_m t4).length)) (-1)).trans ((if_neg (fun e => absurd e.1 (by decide))).trans c_12_328)
                                                        have c_13_330 := (qI_q hSn (k := 13) (k' := 18) (h := h334) (by decide) rfl (by decide) rfl ((6 * (10 * k_e + k3)) + ((mt_m t4).length)) ((6 * (10 * k_e + k3)) + ((mt_m t4).length)) (-1)).trans ((if_neg (fun e => absurd e.1 (by decide))).trans c_13_330)
                                                        have c_14_331 := (qI_q hSn (k := 14) (k' := 18) (h := h334) (by decide) rfl (by decide) rfl ((6 * (10 * k_e + k3)) + ((mt_m t4).length)) ((6 * (10 * k_e + k3)) + ((mt_m t4).length)) (-1)).trans ((if_neg (fun e => absurd e.1 (by decide))).trans c_14_331)
                                                        have c_15_332 := (qI_q hSn (k := 15) (k' := 18) (h := h334) (by decide) rfl (by decide) rfl ((6 * (10 * k_e + k3)) + ((mt_m t4).length)) ((6 * (10 * k_e + k3)) + ((mt_m t4).length)) (-1)).trans ((if_neg (fun e => absurd e.1 (by decide))).trans c_15_332)
                                                        have c_16_333 := (qI_q hSn (k := 16) (k' := 18) (h := h334) (by decide) rfl (by decide) rfl ((6 * (10 * k_e + k3)) + ((mt_m t4).length)) ((6 * (10 * k_e + k3)) + ((mt_m t4).length)) (-1)).trans ((if_neg (fun e => absurd e.1 (by decide))).trans c_16_333)
                                                        have c_17_334 := (qI_q hSn (k := 17) (k' := 18) (h := h334) (by decide) rfl (by decide) rfl ((6 * (10 * k_e + k3)) + ((mt_m t4).length)) ((6 * (10 * k_e + k3)) + ((mt_m t4).length)) (-1)).trans ((if_neg (fun e => absurd e.1 (by decide))).trans c_17_334)
                                                        have hth := (xI_q hSn (k := 18) (h := h334) (by decide) rfl 0 ((6 * (10 * k_e + k3)) + ((mt_m t4).length)) (-1)).trans hth
                                                        have c_18_335 : jv_I (jv_wI h334 (q 18) ((6 * (10 * k_e + k3)) + ((mt_m t4).length)) (-1)) (q 18) ((6 * (10 * k_e + k3)) + ((mt_m t4).length)) = -1 := jv_I_self _ _ _ _
                                                        generalize jv_wI h334 (q 18) ((6 * (10 * k_e + k3)) + ((mt_m t4).length)) (-1) = h335 at hF hSn2 c2 c_12_328 c_13_330 c_14_331 c_15_332 c_16_333 c_17_334 hth c_18_335 ⊢
                                                        clear hSn; have hSn := hSn2; clear hSn2
                                                        refine jv_aload_n (q := 360) G 4 dX8_member_359 rfl rfl rfl ?_
                                                        refine jv_getQ (q := 363) G dX8_member_360 fl_X8_62 rfl hSn.1 (rf_p19 hSn) rfl ?_
                                                        refine jv_iload (q := 365) G 0 dX8_member_363 rfl rfl ?_
                                                        refine jv_iload_n (q := 366) G 7 dX8_member_365 rfl rfl rfl ?_
                                                        refine jv_iconst (q := 367) (v := nI 2) G dX8_member_366 (by decide) rfl ?_
                                                        refine jv_icmp_neN (q := 370) (tgt := 374) G dX8_member_367 (by decide) rfl (by omega) (by omega) (fun c336 => ?_) (fun c336 => ?_)
                                                        · refine jv_iconst (q := 375) (v := nI 0) G dX8_member_374 (by decide) rfl ?_
                                                          refine jv_topI (y := jv_bI false) rfl ?_
                                                          refine jv_zast (q := 376) G dX8_member_375 (rf_a19 hSn) rfl (by omega) (by decide) rfl ?_
                                                          have hF := hF.wq hS (k := 19) (j := (6 * (10 * k_e + k3)) + ((mt_m t4).length)) (by decide) rfl (Or.inr ⟨by unfold k_m; omega, rfl⟩) (jv_bI false)
                                                          have hSn2 := hF.S hS
                                                          have c2 := (qI_q hSn (k := 2) (k' := 19) (h := h335) (by decide) rfl (by decide) rfl (k_e) ((6 * (10 * k_e + k3)) + ((mt_m t4).length)) (jv_bI false)).trans ((if_neg (fun e => absurd e.1 (by decide))).trans c2)
                                                          have c_12_328 := (qI_q hSn (k := 12) (k' := 19) (h := h335) (by decide) rfl (by decide) rfl (10 * k_e + k3) ((6 * (10 * k_e + k3)) + ((mt_m t4).length)) (jv_bI false)).trans ((if_neg (fun e => absurd e.1 (by decide))).trans c_12_328)
                                                          have c_13_330 := (qI_q hSn (k := 13) (k' := 19) (h := h335) (by decide) rfl (by decide) rfl ((6 * (10 * k_e + k3)) + ((mt_m t4).length)) ((6 * (10 * k_e + k3)) + ((mt_m t4).length)) (jv_bI false)).trans ((if_neg (fun e => absurd e.1 (by decide))).trans c_13_330)
                                                          have c_14_331 := (qI_q hSn (k := 14) (k' := 19) (h := h335) (by decide) rfl (by decide) rfl ((6 * (10 * k_e + k3)) + ((mt_m t4).length)) ((6 * (10 * k_e + k3)) + ((mt_m t4).length)) (jv_bI false)).trans ((if_neg (fun e => absurd e.1 (by decide))).trans c_14_331)
                                                          have c_15_332 := (qI_q hSn (k := 15) (k' := 19) (h := h335) (by decide) rfl (by decide) rfl ((6 * (10 * k_e + k3)) + ((mt_m t4).length)) ((6 * (10 * k_e + k3)) + ((mt_m t4).length)) (jv_bI false)).trans ((if_neg (fun e => absurd e.1 (by decide))).trans c_15_332)
                                                          have c_16_333 := (qI_q hSn (k := 16) (k' := 19) (h := h335) (by decide) rfl (by decide) rfl ((6 * (10 * k_e + k3)) + ((mt_m t4).length)) ((6 * (10 * k_e + k3)) + ((mt_m t4).length)) (jv_bI false)).trans ((if_neg (fun e => absurd e.1 (by decide))).trans c_16_333)
                                                          have c_17_334 := (qI_q hSn (k := 17) (k' := 19) (h := h335) (by decide) rfl (by decide) rfl ((6 * (10 * k_e + k3)) + ((mt_m t4).length)) ((6 * (10 * k_e + k3)) + ((mt_m t4).length)) (jv_bI false)).trans ((if_neg (fun e => absurd e.1 (by decide))).trans c_17_334)
                                                          have c_18_335 := (qI_q hSn (k := 18) (k' := 19) (h := h335) (by decide) rfl (by decide) rfl ((6 * (10 * k_e + k3)) + ((mt_m t4).length)) ((6 * (10 * k_e + k3)) + ((mt_m t4).length)) (jv_bI false)).trans ((if_neg (fun e => absurd e.1 (by decide))).trans c_18_335)
                                                          have hth := (xI_q hSn (k := 19) (h := h335) (by decide) rfl 0 ((6 * (10 * k_e + k3)) + ((mt_m t4).length)) (jv_bI false)).trans hth
                                                          have c_19_337 : jv_I (jv_wI h335 (q 19) ((6 * (10 * k_e + k3)) + ((mt_m t4).length)) (jv_bI false)) (q 19) ((6 * (10 * k_e + k3)) + ((mt_m t4).length)) = jv_bI false := jv_I_self _ _ _ _
                                                          generalize jv_wI h335 (q 19) ((6 * (10 * k_e + k3)) + ((mt_m t4).length)) (jv_bI false) = h337 at hF hSn2 c2 c_12_328 c_13_330 c_14_331 c_15_332 c_16_333 c_17_334 c_18_335 hth c_19_337 ⊢
                                                          clear hSn; have hSn := hSn2; clear hSn2
                                                          refine jv_aload_n (q := 377) G 4 dX8_member_376 rfl rfl rfl ?_
                                                          refine jv_getQ (q := 380) G dX8_member_377 fl_X8_41 rfl hSn.1 (rf_p12 hSn) rfl ?_
                                                          refine jv_iload (q := 382) G 3 dX8_member_380 rfl rfl ?_
                                                          refine jv_iald (q := 383) G dX8_member_382 (rf_a12 hSn) rfl (by omega) (by decide) c_12_328 rfl ?_
                                                          refine jv_iret G hr dX8_member_383 (Nat.le_of_ble_eq_true rfl) (Nat.le_of_ble_eq_true rfl) ?_
                                                          have hg : m_mbG t4 (nI 1) o s a false (-1) = true := by
                                                            unfold m_mbG; simp only [*, nI_21, nI_12, nI_102, eq_self,  if_true, if_false, Bool.false_eq_true, reduceIte, Bool.and_true, Bool.and_false, Bool.true_and, Bool.false_and, Bool.not_true, Bool.not_false, Bool.true_or, Bool.or_true, Bool.false_or, Option.isNone_some, Option.isNone_none, decide_true, decide_false]
                                                          have hM2 := rf_M.new (w1 := true) (w2 := false) hg (by simp only [*, nI_21, nI_12, nI_102, eq_self,  if_true, if_false, Bool.false_eq_true, reduceIte, Bool.and_true, Bool.and_false, Bool.true_and, Bool.false_and, Bool.not_true, Bool.not_false, Bool.true_or, Bool.or_true, Bool.false_or, Option.isNone_some, Option.isNone_none, decide_true, decide_false]) (by simp only [*, nI_21, nI_12, nI_102, eq_self,  if_true, if_false, Bool.false_eq_true, reduceIte, Bool.and_true, Bool.and_false, Bool.true_and, Bool.false_and, Bool.not_true, Bool.not_false, Bool.true_or, Bool.or_true, Bool.false_or, Option.isNone_some, Option.isNone_none, decide_true, decide_false]) c_13_330 c_14_331 c_15_332 c_16_333 c_17_334 c_18_335 c_19_337
                                                          have hT2 := rf_T.cM (Tt4) Ot4 (by have := Ot4.2.2.2.2.2.1; omega) hF c_12_328 hM2
                                                          refine pO.mk (th := 0) (r := nI ((mt_m t4).length + 1)) (M' := m_put M k_e (false, (ma_t M k_e).set k3 (m_tM t4 (mt_m t4 ++ [m_mbN (nI 1) o s a false (-1)])))) ?_ rfl hth (rf_R.ed hR hke hse (hF.mono (fun k j w => o_T_E (i := k3) (by omega) (by unfold k_m at w; unfold o_T k_t k_m; have := Ot4.2.2.2.2.2.1; omega)) (fun _ z => z)) c2 (hE.upd lt4 (hF.mono (W' := o_T (10 * k_e + k3)) (fun k j w => by unfold k_m at w; unfold o_T k_t k_m; have := Ot4.2.2.2.2.2.1; omega) (fun _ z => z)) hT2) (fun z => by cases z)) ((hrs.FW hS0).fr.tr hF.fr)
                                                          unfold m_mb
                                                          rw [m_opT_yes zke hse (by assumption) ht4, if_pos hg, if_neg (by omega)]
                                                        · omega
                                                    · omega
                                                  · refine jv_iconst (q := 255) (v := nI 4) G dX8_member_254 (by decide) rfl ?_
                                                    refine jv_goto (q := 259) G dX8_member_255 (by decide) ?_
                                                    refine jv_putI (q := 262) G dX8_member_259 fl_X8_122 rfl hS.1 rfl ?_
                                                    have hr1 : rs x q h1 (jv_wI h1 x 0 (nI 4)) := rs.rf.wI (nI 4) (Or.inl ⟨rfl, Or.inl rfl⟩)
                                                    have hth : jv_I (jv_wI h1 x 0 (nI 4)) x 0 = (nI 4) := jv_I_self _ _ _ _
                                                    have hR := hr1.R hR
                                                    have hrs := hrs.tr hr1
                                                    generalize jv_wI h1 x 0 (nI 4) = h338 at hth hR hrs ⊢
                                                    obtain ⟨hS, ⟨hn8, hn⟩, ⟨hm12, hm⟩, hD, hV, hCs⟩ := id hR
                                                    have hsc : sc x q h338 h338 := sc.rf
                                                    have hE := (hD k_e (by omega)).2
                                                    have Tt4 := (hE.2.2 k3 t4 ht4).1
                                                    refine jv_aload_n (q := 263) G 3 dX8_member_262 rfl rfl rfl ?_
                                                    refine jv_getI (q := 266) G dX8_member_263 fl_X8_122 rfl hS.1 hth rfl ?_
                                                    refine jv_if_leN (q := 269) (tgt := 271) G dX8_member_266 (by decide) rfl (by omega) (fun c339 => ?_) (fun c339 => ?_)
                                                    · omega
                                                    · refine jv_iconst (q := 270) (v := nI 0) G dX8_member_269 (by decide) rfl ?_
                                                      refine jv_iret G hr dX8_member_270 (Nat.le_of_ble_eq_true rfl) (Nat.le_of_ble_eq_true rfl) ?_
                                                      refine pO.no (M := M) hS0 ?_ rfl hth hR hrs
                                                      unfold m_mb; rw [m_opT_yes zke hse (by assumption) ht4]; unfold m_mbG
                                                      simp only [*, nI_21, nI_12, nI_102, eq_self,  if_true, if_false, Bool.false_eq_true, reduceIte, Bool.and_true, Bool.and_false, Bool.true_and, Bool.false_and, Bool.not_true, Bool.not_false, Bool.true_or, Bool.or_true, Bool.false_or, Option.isNone_some, Option.isNone_none, decide_true, decide_false]
                                                · omega
                                            · refine jv_topI (y := nI (6 * (10 * k_e + k3) + j320)) (by rw [hj322]; rfl) ?_
                                              obtain ⟨m321, hm321, wm321, nm321, sm321, lm321⟩ := m_own_some hj322
                                              have Mm321 := rt_m Tt4 hm321
                                              have Om321 := Ot4.2.2.2.2.2.2 m321 (List.mem_of_getElem? hm321)
                                              have Lm321 := Ot4.2.2.2.2.2.1
                                              have Bm321n := Om321.1; have Bm321s := Om321.2.1; have Bm321a := Om321.2.2.1
                                              refine jv_iconst (q := 222) (v := (-1)) G dX8_member_221 (by decide) rfl ?_
                                              refine jv_icmp_ne (q := 225) (tgt := 229) G dX8_member_222 (by decide) rfl (fun c340 => ?_) (fun c340 => ?_)
                                              · refine jv_iconst (q := 230) (v := nI 0) G dX8_member_229 (by decide) rfl ?_
                                                refine jv_istore (q := 232) (lo' := [(11, .int (nI 0)), (10, .int (nI 1)), (9, .int (nI (10 * k_e + k3))), (0, .ref x), (1, .int (nI k_e)), (2, .int n), (3, .int (nI 1)), (4, .int o), (5, .int s), (6, .int a), (7, .int (jv_bI false)), (8, .int (-1))]) G dX8_member_230 (by decide) rfl rfl ?_
                                                refine jv_aload_n (q := 233) G 3 dX8_member_232 rfl rfl rfl ?_
                                                refine jv_iload (q := 235) G 0 dX8_member_233 rfl rfl ?_
                                                refine jv_if_neN (q := 238) (tgt := 242) G dX8_member_235 (by decide) rfl (by omega) (fun c341 => ?_) (fun c341 => ?_)
                                                · omega
                                                · refine jv_iconst (q := 239) (v := nI 3) G dX8_member_238 (by decide) rfl ?_
                                                  refine jv_goto (q := 259) G dX8_member_239 (by decide) ?_
                                                  refine jv_putI (q := 262) G dX8_member_259 fl_X8_122 rfl hS.1 rfl ?_
                                                  have hr1 : rs x q h1 (jv_wI h1 x 0 (nI 3)) := rs.rf.wI (nI 3) (Or.inl ⟨rfl, Or.inl rfl⟩)
                                                  have hth : jv_I (jv_wI h1 x 0 (nI 3)) x 0 = (nI 3) := jv_I_self _ _ _ _
                                                  have hR := hr1.R hR
                                                  have hrs := hrs.tr hr1
                                                  generalize jv_wI h1 x 0 (nI 3) = h342 at hth hR hrs ⊢
                                                  obtain ⟨hS, ⟨hn8, hn⟩, ⟨hm12, hm⟩, hD, hV, hCs⟩ := id hR
                                                  have hsc : sc x q h342 h342 := sc.rf
                                                  have hE := (hD k_e (by omega)).2
                                                  have Tt4 := (hE.2.2 k3 t4 ht4).1
                                                  refine jv_aload_n (q := 263) G 3 dX8_member_262 rfl rfl rfl ?_
                                                  refine jv_getI (q := 266) G dX8_member_263 fl_X8_122 rfl hS.1 hth rfl ?_
                                                  refine jv_if_leN (q := 269) (tgt := 271) G dX8_member_266 (by decide) rfl (by omega) (fun c343 => ?_) (fun c343 => ?_)
                                                  · omega
                                                  · refine jv_iconst (q := 270) (v := nI 0) G dX8_member_269 (by decide) rfl ?_
                                                    refine jv_iret G hr dX8_member_270 (Nat.le_of_ble_eq_true rfl) (Nat.le_of_ble_eq_true rfl) ?_
                                                    refine pO.no (M := M) hS0 ?_ rfl hth hR hrs
                                                    unfold m_mb; rw [m_opT_yes zke hse (by assumption) ht4]; unfold m_mbG
                                                    simp only [*, nI_21, nI_12, nI_102, eq_self,  if_true, if_false, Bool.false_eq_true, reduceIte, Bool.and_true, Bool.and_false, Bool.true_and, Bool.false_and, Bool.not_true, Bool.not_false, Bool.true_or, Bool.or_true, Bool.false_or, Option.isNone_some, Option.isNone_none, decide_true, decide_false]
                                              · exact absurd c340 (jv_nI_m1 (by omega))
                                      · refine jv_iload (q := 175) G 9 dX8_member_173 rfl rfl ?_
                                        refine jv_iconst (q := 176) (v := nI 3) G dX8_member_175 (by decide) rfl ?_
                                        refine jv_icmp_ne (q := 179) (tgt := 193) G dX8_member_176 (by decide) rfl (fun c344 => ?_) (fun c344 => ?_)
                                        · refine jv_iconst (q := 194) (v := nI 0) G dX8_member_193 (by decide) rfl ?_
                                          refine jv_istore (q := 196) (lo' := [(11, .int (nI 0)), (10, .int (nI 1)), (9, .int (nI (10 * k_e + k3))), (0, .ref x), (1, .int (nI k_e)), (2, .int n), (3, .int (nI 1)), (4, .int o), (5, .int s), (6, .int a), (7, .int (jv_bI false)), (8, .int (-1))]) G dX8_member_194 (by decide) rfl rfl ?_
                                          refine jv_iload (q := 198) G 0 dX8_member_196 rfl rfl ?_
                                          refine jv_if_eqN (q := 201) (tgt := 232) G dX8_member_198 (by decide) rfl (by omega) (fun c345 => ?_) (fun c345 => ?_)
                                          · refine jv_aload_n (q := 233) G 3 dX8_member_232 rfl rfl rfl ?_
                                            refine jv_iload (q := 235) G 0 dX8_member_233 rfl rfl ?_
                                            refine jv_if_neN (q := 238) (tgt := 242) G dX8_member_235 (by decide) rfl (by omega) (fun c346 => ?_) (fun c346 => ?_)
                                            · omega
                                            · refine jv_iconst (q := 239) (v := nI 3) G dX8_member_238 (by decide) rfl ?_
                                              refine jv_goto (q := 259) G dX8_member_239 (by decide) ?_
                                              refine jv_putI (q := 262) G dX8_member_259 fl_X8_122 rfl hS.1 rfl ?_
                                              have hr1 : rs x q h1 (jv_wI h1 x 0 (nI 3)) := rs.rf.wI (nI 3) (Or.inl ⟨rfl, Or.inl rfl⟩)
                                              have hth : jv_I (jv_wI h1 x 0 (nI 3)) x 0 = (nI 3) := jv_I_self _ _ _ _
                                              have hR := hr1.R hR
                                              have hrs := hrs.tr hr1
                                              generalize jv_wI h1 x 0 (nI 3) = h347 at hth hR hrs ⊢
                                              obtain ⟨hS, ⟨hn8, hn⟩, ⟨hm12, hm⟩, hD, hV, hCs⟩ := id hR
                                              have hsc : sc x q h347 h347 := sc.rf
                                              have hE := (hD k_e (by omega)).2
                                              have Tt4 := (hE.2.2 k3 t4 ht4).1
                                              refine jv_aload_n (q := 263) G 3 dX8_member_262 rfl rfl rfl ?_
                                              refine jv_getI (q := 266) G dX8_member_263 fl_X8_122 rfl hS.1 hth rfl ?_
                                              refine jv_if_leN (q := 269) (tgt := 271) G dX8_member_266 (by decide) rfl (by omega) (fun c348 => ?_) (fun c348 => ?_)
                                              · omega
                                              · refine jv_iconst (q := 270) (v := nI 0) G dX8_member_269 (by decide) rfl ?_
                                                refine jv_iret G hr dX8_member_270 (Nat.le_of_ble_eq_true rfl) (Nat.le_of_ble_eq_true rfl) ?_
                                                refine pO.no (M := M) hS0 ?_ rfl hth hR hrs
                                                unfold m_mb; rw [m_opT_yes zke hse (by assumption) ht4]; unfold m_mbG
                                                simp only [*, nI_21, nI_12, nI_102, eq_self,  if_true, if_false, Bool.false_eq_true, reduceIte, Bool.and_true, Bool.and_false, Bool.true_and, Bool.false_and, Bool.not_true, Bool.not_false, Bool.true_or, Bool.or_true, Bool.false_or, Option.isNone_some, Option.isNone_none, decide_true, decide_false]
                                          · omega
                                        · subst c344
                                          refine jv_iload (q := 181) G 1 dX8_member_179 rfl rfl ?_
                                          refine jv_if_neN (q := 184) (tgt := 189) G dX8_member_181 (by decide) rfl (by omega) (fun c349 => ?_) (fun c349 => ?_)
                                          · refine jv_iconst (q := 190) (v := nI 1) G dX8_member_189 (by decide) rfl ?_
                                            refine jv_goto (q := 194) G dX8_member_190 (by decide) ?_
                                            refine jv_istore (q := 196) (lo' := [(11, .int (nI 1)), (10, .int (nI 1)), (9, .int (nI (10 * k_e + k3))), (0, .ref x), (1, .int (nI k_e)), (2, .int n), (3, .int (nI 1)), (4, .int o), (5, .int s), (6, .int (nI 3)), (7, .int (jv_bI false)), (8, .int (-1))]) G dX8_member_194 (by decide) rfl rfl ?_
                                            refine jv_iload (q := 198) G 0 dX8_member_196 rfl rfl ?_
                                            refine jv_if_eqN (q := 201) (tgt := 232) G dX8_member_198 (by decide) rfl (by omega) (fun c350 => ?_) (fun c350 => ?_)
                                            · omega
                                            · refine jv_aload_n (q := 202) G 3 dX8_member_201 rfl rfl rfl ?_
                                              refine jv_iload (q := 204) G 2 dX8_member_202 rfl rfl ?_
                                              refine jv_iload (q := 206) G 1 dX8_member_204 rfl rfl ?_
                                              refine jv_if_eqN (q := 209) (tgt := 213) G dX8_member_206 (by decide) rfl (by omega) (fun c351 => ?_) (fun c351 => ?_)
                                              · omega
                                              · refine jv_iconst (q := 210) (v := nI 1) G dX8_member_209 (by decide) rfl ?_
                                                refine jv_goto (q := 214) G dX8_member_210 (by decide) ?_
                                                refine jv_iload (q := 216) G 7 dX8_member_214 rfl rfl ?_
                                                refine jv_iload (q := 218) G 8 dX8_member_216 rfl rfl ?_
                                                refine jv_callV_I (q := 221) (h1 := h1) (As := [.int (nI (10 * k_e + k3)), .int (nI 1), .int o, .int s]) (rest := []) (ce' := 0) (sl' := 0) (r := jv_oN ((m_own t4 (nI 1) o s).map (fun j => 6 * (10 * k_e + k3) + j))) G Z ml_X8_155 (r_own hlt (hsc.S hS) (by omega) (hsc.T hS Tt4) Ot4) hS.1 dX8_member_218 rfl (by decide) (by decide) (by decide) (by decide) (Nat.le_of_ble_eq_true rfl) rfl rfl rfl rfl ?_
                                                rcases Option.eq_none_or_eq_some (m_own t4 (nI 1) o s) with hj354 | ⟨j352, hj354⟩
                                                · refine jv_topI (y := (-1)) (by rw [hj354]; rfl) ?_
                                                  refine jv_iconst (q := 222) (v := (-1)) G dX8_member_221 (by decide) rfl ?_
                                                  refine jv_icmp_ne (q := 225) (tgt := 229) G dX8_member_222 (by decide) rfl (fun c355 => ?_) (fun c355 => ?_)
                                                  · exact absurd rfl c355
                                                  · refine jv_iconst (q := 226) (v := nI 1) G dX8_member_225 (by decide) rfl ?_
                                                    refine jv_goto (q := 230) G dX8_member_226 (by decide) ?_
                                                    refine jv_istore (q := 232) (lo' := [(11, .int (nI 1)), (10, .int (nI 1)), (9, .int (nI (10 * k_e + k3))), (0, .ref x), (1, .int (nI k_e)), (2, .int n), (3, .int (nI 1)), (4, .int o), (5, .int s), (6, .int (nI 3)), (7, .int (jv_bI false)), (8, .int (-1))]) G dX8_member_230 (by decide) rfl rfl ?_
                                                    refine jv_aload_n (q := 233) G 3 dX8_member_232 rfl rfl rfl ?_
                                                    refine jv_iload (q := 235) G 0 dX8_member_233 rfl rfl ?_
                                                    refine jv_if_neN (q := 238) (tgt := 242) G dX8_member_235 (by decide) rfl (by omega) (fun c356 => ?_) (fun c356 => ?_)
                                                    · refine jv_aload_n (q := 243) G 3 dX8_member_242 rfl rfl rfl ?_
                                                      refine jv_getQ (q := 246) G dX8_member_243 fl_X8_41 rfl hS.1 (rf_p12 hS) rfl ?_
                                                      refine jv_iload (q := 248) G 2 dX8_member_246 rfl rfl ?_
                                                      refine jv_iald (q := 249) G dX8_member_248 (rf_a12 hS) rfl (by omega) (by decide) (rt_12 (hsc.T hS Tt4)) rfl ?_
                                                      refine jv_bipush (q := 251) (v := nI 6) G dX8_member_249 (by decide) rfl ?_
                                                      refine jv_icmp_neN (q := 254) (tgt := 258) G dX8_member_251 (by decide) rfl (by omega) (by omega) (fun c357 => ?_) (fun c357 => ?_)
                                                      · refine jv_iconst (q := 259) (v := nI 0) G dX8_member_258 (by decide) rfl ?_
                                                        refine jv_putI (q := 262) G dX8_member_259 fl_X8_122 rfl hS.1 rfl ?_
                                                        have hr1 : rs x q h1 (jv_wI h1 x 0 (nI 0)) := rs.rf.wI (nI 0) (Or.inl ⟨rfl, Or.inl rfl⟩)
                                                        have hth : jv_I (jv_wI h1 x 0 (nI 0)) x 0 = (nI 0) := jv_I_self _ _ _ _
                                                        have hR := hr1.R hR
                                                        have hrs := hrs.tr hr1
                                                        generalize jv_wI h1 x 0 (nI 0) = h358 at hth hR hrs ⊢
                                                        obtain ⟨hS, ⟨hn8, hn⟩, ⟨hm12, hm⟩, hD, hV, hCs⟩ := id hR
                                                        have hsc : sc x q h358 h358 := sc.rf
                                                        have hE := (hD k_e (by omega)).2
                                                        have Tt4 := (hE.2.2 k3 t4 ht4).1
                                                        refine jv_aload_n (q := 263) G 3 dX8_member_262 rfl rfl rfl ?_
                                                        refine jv_getI (q := 266) G dX8_member_263 fl_X8_122 rfl hS.1 hth rfl ?_
                                                        refine jv_if_leN (q := 269) (tgt := 271) G dX8_member_266 (by decide) rfl (by omega) (fun c359 => ?_) (fun c359 => ?_)
                                                        · have c2 : jv_I h358 (q 2) k_e = jv_bI false := (hD k_e (by omega)).1.trans (by rw [hse])
                                                          have c12 := rt_12 Tt4
                                                          have hl6 := Ot4.2.2.2.2.2.1
                                                          have hF : FW (fun k j => (k = 12 ∧ j = 10 * k_e + k3) ∨ (k_m k ∧ j = 6 * (10 * k_e + k3) + (mt_m t4).length)) xcr x q h358 h358 := FW.rf
                                                          have hSn := hS
                                                          refine jv_bipush (q := 273) (v := nI 6) G dX8_member_271 (by decide) rfl ?_
                                                          refine jv_iload (q := 275) G 2 dX8_member_273 rfl rfl ?_
                                                          refine jv_imulN (q := 276) G dX8_member_275 rfl ?_
                                                          refine jv_aload_n (q := 277) G 3 dX8_member_276 rfl rfl rfl ?_
                                                          refine jv_getQ (q := 280) G dX8_member_277 fl_X8_41 rfl hS.1 (rf_p12 hS) rfl ?_
                                                          refine jv_iload (q := 282) G 2 dX8_member_280 rfl rfl ?_
                                                          refine jv_iald (q := 283) G dX8_member_282 (rf_a12 hS) rfl (by omega) (by decide) (rt_12 (hsc.T hS Tt4)) rfl ?_
                                                          refine jv_iaddN (q := 284) G dX8_member_283 rfl ?_
                                                          refine jv_istore (q := 286) (lo' := [(12, .int (nI ((6 * (10 * k_e + k3)) + ((mt_m t4).length)))), (11, .int (nI 1)), (10, .int (nI 1)), (9, .int (nI (10 * k_e + k3))), (0, .ref x), (1, .int (nI k_e)), (2, .int n), (3, .int (nI 1)), (4, .int o), (5, .int s), (6, .int (nI 3)), (7, .int (jv_bI false)), (8, .int (-1))]) G dX8_member_284 (by decide) rfl rfl ?_
                                                          refine jv_aload_n (q := 287) G 4 dX8_member_286 rfl rfl rfl ?_
                                                          refine jv_getQ (q := 290) G dX8_member_287 fl_X8_41 rfl hS.1 (rf_p12 hS) rfl ?_
                                                          refine jv_iload (q := 292) G 3 dX8_member_290 rfl rfl ?_
                                                          refine jv_dup2 (q := 293) G dX8_member_292 rfl rfl rfl ?_
                                                          refine jv_iald (q := 294) G dX8_member_293 (rf_a12 hS) rfl (by omega) (by decide) (rt_12 (hsc.T hS Tt4)) rfl ?_
                                                          refine jv_iconst (q := 295) (v := nI 1) G dX8_member_294 (by decide) rfl ?_
                                                          refine jv_iaddN (q := 296) G dX8_member_295 rfl ?_
                                                          refine jv_iast (q := 297) G dX8_member_296 (rf_a12 hS) rfl (by omega) (by decide) rfl ?_
                                                          have hF := hF.wq hS (k := 12) (j := 10 * k_e + k3) (by decide) rfl (Or.inl ⟨rfl, rfl⟩) (nI (((mt_m t4).length) + 1))
                                                          have hSn2 := hF.S hS
                                                          have c2 := (qI_q hSn (k := 2) (k' := 12) (h := h358) (by decide) rfl (by decide) rfl (k_e) (10 * k_e + k3) (nI (((mt_m t4).length) + 1))).trans ((if_neg (fun e => absurd e.1 (by decide))).trans c2)
                                                          have hth := (xI_q hSn (k := 12) (h := h358) (by decide) rfl 0 (10 * k_e + k3) (nI (((mt_m t4).length) + 1))).trans hth
                                                          have c_12_360 : jv_I (jv_wI h358 (q 12) (10 * k_e + k3) (nI (((mt_m t4).length) + 1))) (q 12) (10 * k_e + k3) = nI (((mt_m t4).length) + 1) := jv_I_self _ _ _ _
                                                          generalize jv_wI h358 (q 12) (10 * k_e + k3) (nI (((mt_m t4).length) + 1)) = h360 at hF hSn2 c2 hth c_12_360 ⊢
                                                          clear hSn; have hSn := hSn2; clear hSn2
                                                          refine jv_aload_n (q := 298) G 4 dX8_member_297 rfl rfl rfl ?_
                                                          refine jv_getQ (q := 301) G dX8_member_298 fl_X8_44 rfl hSn.1 (rf_p13 hSn) rfl ?_
                                                          refine jv_iload (q := 303) G 0 dX8_member_301 rfl rfl ?_
                                                          refine jv_iload (q := 305) G 2 dX8_member_303 rfl rfl ?_
                                                          refine jv_if_eqN (q := 308) (tgt := 312) G dX8_member_305 (by decide) rfl (by omega) (fun c361 => ?_) (fun c361 => ?_)
                                                          · omega
                                                          · refine jv_iconst (q := 309) (v := nI 1) G dX8_member_308 (by decide) rfl ?_
                                                            refine jv_goto (q := 313) G dX8_member_309 (by decide) ?_
                                                            refine jv_iast (q := 314) G dX8_member_313 (rf_a13 hSn) rfl (by omega) (by decide) rfl ?_
                                                            have hF := hF.wq hS (k := 13) (j := (6 * (10 * k_e + k3)) + ((mt_m t4).length)) (by decide) rfl (Or.inr ⟨by unfold k_m; omega, rfl⟩) (nI 1)
                                                            have hSn2 := hF.S hS
                                                            have c2 := (qI_q hSn (k := 2) (k' := 13) (h := h360) (by decide) rfl (by decide) rfl (k_e) ((6 * (10 * k_e + k3)) + ((mt_m t4).length)) (nI 1)).trans ((if_neg (fun e => absurd e.1 (by decide))).trans c2)
                                                            have c_12_360 := (qI_q hSn (k := 12) (k' := 13) (h := h360) (by decide) rfl (by decide) rfl (10 * k_e + k3) ((6 * (10 * k_e + k3)) + ((mt_m t4).length)) (nI 1)).trans ((if_neg (fun e => absurd e.1 (by decide))).trans c_12_360)
                                                            have hth := (xI_q hSn (k := 13) (h := h360) (by decide) rfl 0 ((6 * (10 * k_e + k3)) + ((mt_m t4).length)) (nI 1)).trans hth
                                                            have c_13_362 : jv_I (jv_wI h360 (q 13) ((6 * (10 * k_e + k3)) + ((mt_m t4).length)) (nI 1)) (q 13) ((6 * (10 * k_e + k3)) + ((mt_m t4).length)) = nI 1 := jv_I_self _ _ _ _
                                                            generalize jv_wI h360 (q 13) ((6 * (10 * k_e + k3)) + ((mt_m t4).length)) (nI 1) = h362 at hF hSn2 c2 c_12_360 hth c_13_362 ⊢
                                                            clear hSn; have hSn := hSn2; clear hSn2
                                                            refine jv_aload_n (q := 315) G 4 dX8_member_314 rfl rfl rfl ?_
                                                            refine jv_getQ (q := 318) G dX8_member_315 fl_X8_47 rfl hSn.1 (rf_p14 hSn) rfl ?_
                                                            refine jv_iload (q := 320) G 0 dX8_member_318 rfl rfl ?_
                                                            refine jv_iload (q := 322) G 8 dX8_member_320 rfl rfl ?_
                                                            refine jv_iast (q := 323) G dX8_member_322 (rf_a14 hSn) rfl (by omega) (by decide) rfl ?_
                                                            have hF := hF.wq hS (k := 14) (j := (6 * (10 * k_e + k3)) + ((mt_m t4).length)) (by decide) rfl (Or.inr ⟨by unfold k_m; omega, rfl⟩) (o)
                                                            have hSn2 := hF.S hS
                                                            have c2 := (qI_q hSn (k := 2) (k' := 14) (h := h362) (by decide) rfl (by decide) rfl (k_e) ((6 * (10 * k_e + k3)) + ((mt_m t4).length)) (o)).trans ((if_neg (fun e => absurd e.1 (by decide))).trans c2)
                                                            have c_12_360 := (qI_q hSn (k := 12) (k' := 14) (h := h362) (by decide) rfl (by decide) rfl (10 * k_e + k3) ((6 * (10 * k_e + k3)) + ((mt_m t4).length)) (o)).trans ((if_neg (fun e => absurd e.1 (by decide))).trans c_12_360)
                                                            have c_13_362 := (qI_q hSn (k := 13) (k' := 14) (h := h362) (by decide) rfl (by decide) rfl ((6 * (10 * k_e + k3)) + ((mt_m t4).length)) ((6 * (10 * k_e + k3)) + ((mt_m t4).length)) (o)).trans ((if_neg (fun e => absurd e.1 (by decide))).trans c_13_362)
                                                            have hth := (xI_q hSn (k := 14) (h := h362) (by decide) rfl 0 ((6 * (10 * k_e + k3)) + ((mt_m t4).length)) (o)).trans hth
                                                            have c_14_363 : jv_I (jv_wI h362 (q 14) ((6 * (10 * k_e + k3)) + ((mt_m t4).length)) o) (q 14) ((6 * (10 * k_e + k3)) + ((mt_m t4).length)) = o := jv_I_self _ _ _ _
                                                            generalize jv_wI h362 (q 14) ((6 * (10 * k_e + k3)) + ((mt_m t4).length)) o = h363 at hF hSn2 c2 c_12_360 c_13_362 hth c_14_363 ⊢
                                                            clear hSn; have hSn := hSn2; clear hSn2
                                                            refine jv_aload_n (q := 324) G 4 dX8_member_323 rfl rfl rfl ?_
                                                            refine jv_getQ (q := 327) G dX8_member_324 fl_X8_50 rfl hSn.1 (rf_p15 hSn) rfl ?_
                                                            refine jv_iload (q := 329) G 0 dX8_member_327 rfl rfl ?_
                                                            refine jv_iload (q := 331) G 9 dX8_member_329 rfl rfl ?_
                                                            refine jv_iast (q := 332) G dX8_member_331 (rf_a15 hSn) rfl (by omega) (by decide) rfl ?_
                                                            have hF := hF.wq hS (k := 15) (j := (6 * (10 * k_e + k3)) + ((mt_m t4).length)) (by decide) rfl (Or.inr ⟨by unfold k_m; omega, rfl⟩) (s)
                                                            have hSn2 := hF.S hS
                                                            have c2 := (qI_q hSn (k := 2) (k' := 15) (h := h363) (by decide) rfl (by decide) rfl (k_e) ((6 * (10 * k_e + k3)) + ((mt_m t4).length)) (s)).trans ((if_neg (fun e => absurd e.1 (by decide))).trans c2)
                                                            have c_12_360 := (qI_q hSn (k := 12) (k' := 15) (h := h363) (by decide) rfl (by decide) rfl (10 * k_e + k3) ((6 * (10 * k_e + k3)) + ((mt_m t4).length)) (s)).trans ((if_neg (fun e => absurd e.1 (by decide))).trans c_12_360)
                                                            have c_13_362 := (qI_q hSn (k := 13) (k' := 15) (h := h363) (by decide) rfl (by decide) rfl ((6 * (10 * k_e + k3)) + ((mt_m t4).length)) ((6 * (10 * k_e + k3)) + ((mt_m t4).length)) (s)).trans ((if_neg (fun e => absurd e.1 (by decide))).trans c_13_362)
                                                            have c_14_363 := (qI_q hSn (k := 14) (k' := 15) (h := h363) (by decide) rfl (by decide) rfl ((6 * (10 * k_e + k3)) + ((mt_m t4).length)) ((6 * (10 * k_e + k3)) + ((mt_m t4).length)) (s)).trans ((if_neg (fun e => absurd e.1 (by decide))).trans c_14_363)
                                                            have hth := (xI_q hSn (k := 15) (h := h363) (by decide) rfl 0 ((6 * (10 * k_e + k3)) + ((mt_m t4).length)) (s)).trans hth
                                                            have c_15_364 : jv_I (jv_wI h363 (q 15) ((6 * (10 * k_e + k3)) + ((mt_m t4).length)) s) (q 15) ((6 * (10 * k_e + k3)) + ((mt_m t4).length)) = s := jv_I_self _ _ _ _
                                                            generalize jv_wI h363 (q 15) ((6 * (10 * k_e + k3)) + ((mt_m t4).length)) s = h364 at hF hSn2 c2 c_12_360 c_13_362 c_14_363 hth c_15_364 ⊢
                                                            clear hSn; have hSn := hSn2; clear hSn2
                                                            refine jv_aload_n (q := 333) G 4 dX8_member_332 rfl rfl rfl ?_
                                                            refine jv_getQ (q := 336) G dX8_member_333 fl_X8_53 rfl hSn.1 (rf_p16 hSn) rfl ?_
                                                            refine jv_iload (q := 338) G 0 dX8_member_336 rfl rfl ?_
                                                            refine jv_iload (q := 340) G 10 dX8_member_338 rfl rfl ?_
                                                            refine jv_iast (q := 341) G dX8_member_340 (rf_a16 hSn) rfl (by omega) (by decide) rfl ?_
                                                            have hF := hF.wq hS (k := 16) (j := (6 * (10 * k_e + k3)) + ((mt_m t4).length)) (by decide) rfl (Or.inr ⟨by unfold k_m; omega, rfl⟩) (nI 3)
                                                            have hSn2 := hF.S hS
                                                            have c2 := (qI_q hSn (k := 2) (k' := 16) (h := h364) (by decide) rfl (by decide) rfl (k_e) ((6 * (10 * k_e + k3)) + ((mt_m t4).length)) (nI 3)).trans ((if_neg (fun e => absurd e.1 (by decide))).trans c2)
                                                            have c_12_360 := (qI_q hSn (k := 12) (k' := 16) (h := h364) (by decide) rfl (by decide) rfl (10 * k_e + k3) ((6 * (10 * k_e + k3)) + ((mt_m t4).length)) (nI 3)).trans ((if_neg (fun e => absurd e.1 (by decide))).trans c_12_360)
                                                            have c_13_362 := (qI_q hSn (k := 13) (k' := 16) (h := h364) (by decide) rfl (by decide) rfl ((6 * (10 * k_e + k3)) + ((mt_m t4).length)) ((6 * (10 * k_e + k3)) + ((mt_m t4).length)) (nI 3)).trans ((if_neg (fun e => absurd e.1 (by decide))).trans c_13_362)
                                                            have c_14_363 := (qI_q hSn (k := 14) (k' := 16) (h := h364) (by decide) rfl (by decide) rfl ((6 * (10 * k_e + k3)) + ((mt_m t4).length)) ((6 * (10 * k_e + k3)) + ((mt_m t4).length)) (nI 3)).trans ((if_neg (fun e => absurd e.1 (by decide))).trans c_14_363)
                                                            have c_15_364 := (qI_q hSn (k := 15) (k' := 16) (h := h364) (by decide) rfl (by decide) rfl ((6 * (10 * k_e + k3)) + ((mt_m t4).length)) ((6 * (10 * k_e + k3)) + ((mt_m t4).length)) (nI 3)).trans ((if_neg (fun e => absurd e.1 (by decide))).trans c_15_364)
                                                            have hth := (xI_q hSn (k := 16) (h := h364) (by decide) rfl 0 ((6 * (10 * k_e + k3)) + ((mt_m t4).length)) (nI 3)).trans hth
                                                            have c_16_365 : jv_I (jv_wI h364 (q 16) ((6 * (10 * k_e + k3)) + ((mt_m t4).length)) (nI 3)) (q 16) ((6 * (10 * k_e + k3)) + ((mt_m t4).length)) = nI 3 := jv_I_self _ _ _ _
                                                            generalize jv_wI h364 (q 16) ((6 * (10 * k_e + k3)) + ((mt_m t4).length)) (nI 3) = h365 at hF hSn2 c2 c_12_360 c_13_362 c_14_363 c_15_364 hth c_16_365 ⊢
                                                            clear hSn; have hSn := hSn2; clear hSn2
                                                            refine jv_aload_n (q := 342) G 4 dX8_member_341 rfl rfl rfl ?_
                                                            refine jv_getQ (q := 345) G dX8_member_342 fl_X8_56 rfl hSn.1 (rf_p17 hSn) rfl ?_
                                                            refine jv_iload (q := 347) G 0 dX8_member_345 rfl rfl ?_
                                                            refine jv_iload (q := 349) G 11 dX8_member_347 rfl rfl ?_
                                                            refine jv_zast (q := 350) G dX8_member_349 (rf_a17 hSn) rfl (by omega) (by decide) rfl ?_
                                                            have hF := hF.wq hS (k := 17) (j := (6 * (10 * k_e + k3)) + ((mt_m t4).length)) (by decide) rfl (Or.inr ⟨by unfold k_m; omega, rfl⟩) (jv_bI false)
                                                            have hSn2 := hF.S hS
                                                            have c2 := (qI_q hSn (k := 2) (k' := 17) (h := h365) (by decide) rfl (by decide) rfl (k_e) ((6 * (10 * k_e + k3)) + ((mt_m t4).length)) (jv_bI false)).trans ((if_neg (fun e => absurd e.1 (by decide))).trans c2)
                                                            have c_12_360 := (qI_q hSn (k := 12) (k' := 17) (h := h365) (by decide) rfl (by decide) rfl (10 * k_e + k3) ((6 * (10 * k_e + k3)) + ((mt_m t4).length)) (jv_bI false)).trans ((if_neg (fun e => absurd e.1 (by decide))).trans c_12_360)
                                                            have c_13_362 := (qI_q hSn (k := 13) (k' := 17) (h := h365) (by decide) rfl (by decide) rfl ((6 * (10 * k_e + k3)) + ((mt_m t4).length)) ((6 * (10 * k_e + k3)) + ((mt_m t4).length)) (jv_bI false)).trans ((if_neg (fun e => absurd e.1 (by decide))).trans c_13_362)
                                                            have c_14_363 := (qI_q hSn (k := 14) (k' := 17) (h := h365) (by decide) rfl (by decide) rfl ((6 * (10 * k_e + k3)) + ((mt_m t4).length)) ((6 * (10 * k_e + k3)) + ((mt_m t4).length)) (jv_bI false)).trans ((if_neg (fun e => absurd e.1 (by decide))).trans c_14_363)
                                                            have c_15_364 := (qI_q hSn (k := 15) (k' := 17) (h := h365) (by decide) rfl (by decide) rfl ((6 * (10 * k_e + k3)) + ((mt_m t4).length)) ((6 * (10 * k_e + k3)) + ((mt_m t4).length)) (jv_bI false)).trans ((if_neg (fun e => absurd e.1 (by decide))).trans c_15_364)
                                                            have c_16_365 := (qI_q hSn (k := 16) (k' := 17) (h := h365) (by decide) rfl (by decide) rfl ((6 * (10 * k_e + k3)) + ((mt_m t4).length)) ((6 * (10 * k_e + k3)) + ((mt_m t4).length)) (jv_bI false)).trans ((if_neg (fun e => absurd e.1 (by decide))).trans c_16_365)
                                                            have hth := (xI_q hSn (k := 17) (h := h365) (by decide) rfl 0 ((6 * (10 * k_e + k3)) + ((mt_m t4).length)) (jv_bI false)).trans hth
                                                            have c_17_366 : jv_I (jv_wI h365 (q 17) ((6 * (10 * k_e + k3)) + ((mt_m t4).length)) (jv_bI false)) (q 17) ((6 * (10 * k_e + k3)) + ((mt_m t4).length)) = jv_bI false := jv_I_self _ _ _ _
                                                            generalize jv_wI h365 (q 17) ((6 * (10 * k_e + k3)) + ((mt_m t4).length)) (jv_bI false) = h366 at hF hSn2 c2 c_12_360 c_13_362 c_14_363 c_15_364 c_16_365 hth c_17_366 ⊢
                                                            clear hSn; have hSn := hSn2; clear hSn2
                                                            refine jv_aload_n (q := 351) G 4 dX8_member_350 rfl rfl rfl ?_
                                                            refine jv_getQ (q := 354) G dX8_member_351 fl_X8_59 rfl hSn.1 (rf_p18 hSn) rfl ?_
                                                            refine jv_iload (q := 356) G 0 dX8_member_354 rfl rfl ?_
                                                            refine jv_iload (q := 358) G 12 dX8_member_356 rfl rfl ?_
                                                            refine jv_iast (q := 359) G dX8_member_358 (rf_a18 hSn) rfl (by omega) (by decide) rfl ?_
                                                            have hF := hF.wq hS (k := 18) (j := (6 * (10 * k_e + k3)) + ((mt_m t4).length)) (by decide) rfl (Or.inr ⟨by unfold k_m; omega, rfl⟩) (-1)
                                                            have hSn2 := hF.S hS
                                                            have c2 := (qI_q hSn (k := 2) (k' := 18) (h := h366) (by decide) rfl (by decide) rfl (k_e) ((6 * (10 * k_e + k3)) + ((mt_m t4).length)) (-1)).trans ((if_neg (fun e => absurd e.1 (by decide))).trans c2)
                                                            have c_12_360 := (qI_q hSn (k := 12) (k' := 18) (h := h366) (by decide) rfl (by decide) rfl (10 * k_e + k3) ((6 * (10 * k_e + k3)) + ((mt_m t4).length)) (-1)).trans ((if_neg (fun e => absurd e.1 (by decide))).trans c_12_360)
                                                            have c_13_362 := (qI_q hSn (k := 13) (k' := 18) (h := h366) (by decide) rfl (by decide) rfl ((6 * (10 * k_e + k3)) + ((mt_m t4).length)) ((6 * (10 * k_e + k3)) + ((mt_m t4).length)) (-1)).trans ((if_neg (fun e => absurd e.1 (by decide))).trans c_13_362)
                                                            have c_14_363 := (qI_q hSn (k := 14) (k' := 18) (h := h366) (by decide) rfl (by decide) rfl ((6 * (10 * k_e + k3)) + ((mt_m t4).length)) ((6 * (10 * k_e + k3)) + ((mt_m t4).length)) (-1)).trans ((if_neg (fun e => absurd e.1 (by decide))).trans c_14_363)
                                                            have c_15_364 := (qI_q hSn (k := 15) (k' := 18) (h := h366) (by decide) rfl (by decide) rfl ((6 * (10 * k_e + k3)) + ((mt_m t4).length)) ((6 * (10 * k_e + k3)) + ((mt_m t4).length)) (-1)).trans ((if_neg (fun e => absurd e.1 (by decide))).trans c_15_364)
                                                            have c_16_365 := (qI_q hSn (k := 16) (k' := 18) (h := h366) (by decide) rfl (by decide) rfl ((6 * (10 * k_e + k3)) + ((mt_m t4).length)) ((6 * (10 * k_e + k3)) + ((mt_m t4).length)) (-1)).trans ((if_neg (fun e => absurd e.1 (by decide))).trans c_16_365)
                                                            have c_17_366 := (qI_q hSn (k := 17) (k' := 18) (h := h366) (by decide) rfl (by decide) rfl ((6 * (10 * k_e + k3)) + ((mt_m t4).length)) ((6 * (10 * k_e + k3)) + ((mt_m t4).length)) (-1)).trans ((if_neg (fun e => absurd e.1 (by decide))).trans c_17_366)
                                                            have hth := (xI_q hSn (k := 18) (h := h366) (by decide) rfl 0 ((6 * (10 * k_e + k3)) + ((mt_m t4).length)) (-1)).trans hth
                                                            have c_18_367 : jv_I (jv_wI h366 (q 18) ((6 * (10 * k_e + k3)) + ((mt_m t4).length)) (-1)) (q 18) ((6 * (10 * k_e + k3)) + ((mt_m t4).length)) = -1 := jv_I_self _ _ _ _
                                                            generalize jv_wI h366 (q 18) ((6 * (10 * k_e + k3)) + ((mt_m t4).length)) (-1) = h367 at hF hSn2 c2 c_12_360 c_13_362 c_14_363 c_15_364 c_16_365 c_17_366 hth c_18_367 ⊢
                                                            clear hSn; have hSn := hSn2; clear hSn2
                                                            refine jv_aload_n (q := 360) G 4 dX8_member_359 rfl rfl rfl ?_
                                                            refine jv_getQ (q := 363) G dX8_member_360 fl_X8_62 rfl hSn.1 (rf_p19 hSn) rfl ?_
                                                            refine jv_iload (q := 365) G 0 dX8_member_363 rfl rfl ?_
                                                            refine jv_iload_n (q := 366) G 7 dX8_member_365 rfl rfl rfl ?_
                                                            refine jv_iconst (q := 367) (v := nI 2) G dX8_member_366 (by decide) rfl ?_
                                                            refine jv_icmp_neN (q := 370) (tgt := 374) G dX8_member_367 (by decide) rfl (by omega) (by omega) (fun c368 => ?_) (fun c368 => ?_)
                                                            · refine jv_iconst (q := 375) (v := nI 0) G dX8_member_374 (by decide) rfl ?_
                                                              refine jv_topI (y := jv_bI false) rfl ?_
                                                              refine jv_zast (q := 376) G dX8_member_375 (rf_a19 hSn) rfl (by omega) (by decide) rfl ?_
                                                              have hF := hF.wq hS (k := 19) (j := (6 * (10 * k_e + k3)) + ((mt_m t4).length)) (by decide) rfl (Or.inr ⟨by unfold k_m; omega, rfl⟩) (jv_bI false)
                                                              have hSn2 := hF.S hS
                                                              have c2 := (qI_q hSn (k := 2) (k' := 19) (h := h367) (by decide) rfl (by decide) rfl (k_e) ((6 * (10 * k_e + k3)) + ((mt_m t4).length)) (jv_bI false)).trans ((if_neg (fun e => absurd e.1 (by decide))).trans c2)
                                                              have c_12_360 := (qI_q hSn (k := 12) (k' := 19) (h := h367) (by decide) rfl (by decide) rfl (10 * k_e + k3) ((6 * (10 * k_e + k3)) + ((mt_m t4).length)) (jv_bI false)).trans ((if_neg (fun e => absurd e.1 (by decide))).trans c_12_360)
                                                              have c_13_362 := (qI_q hSn (k := 13) (k' := 19) (h := h367) (by decide) rfl (by decide) rfl ((6 * (10 * k_e + k3)) + ((mt_m t4).length)) ((6 * (10 * k_e + k3)) + ((mt_m t4).length)) (jv_bI false)).trans ((if_neg (fun e => absurd e.1 (by decide))).trans c_13_362)
                                                              have c_14_363 := (qI_q hSn (k := 14) (k' := 19) (h := h367) (by decide) rfl (by decide) rfl ((6 * (10 * k_e + k3)) + ((mt_m t4).length)) ((6 * (10 * k_e + k3)) + ((mt_m t4).length)) (jv_bI false)).trans ((if_neg (fun e => absurd e.1 (by decide))).trans c_14_363)
                                                              have c_15_364 := (qI_q hSn (k := 15) (k' := 19) (h := h367) (by decide) rfl (by decide) rfl ((6 * (10 * k_e + k3)) + ((mt_m t4).length)) ((6 * (10 * k_e + k3)) + ((mt_m t4).length)) (jv_bI false)).trans ((if_neg (fun e => absurd e.1 (by decide))).trans c_15_364)
                                                              have c_16_365 := (qI_q hSn (k := 16) (k' := 19) (h := h367) (by decide) rfl (by decide) rfl ((6 * (10 * k_e + k3)) + ((mt_m t4).length)) ((6 * (10 * k_e + k3)) + ((mt_m t4).length)) (jv_bI false)).trans ((if_neg (fun e => absurd e.1 (by decide))).trans c_16_365)
                                                              have c_17_366 := (qI_q hSn (k := 17) (k' := 19) (h := h367) (by decide) rfl (by decide) rfl ((6 * (10 * k_e + k3)) + ((mt_m t4).length)) ((6 * (10 * k_e + k3)) + ((mt_m t4).length)) (jv_bI false)).trans ((if_neg (fun e => absurd e.1 (by decide))).trans c_17_366)
                                                              have c_18_367 := (qI_q hSn (k := 18) (k' := 19) (h := h367) (by decide) rfl (by decide) rfl ((6 * (10 * k_e + k3)) + ((mt_m t4).length)) ((6 * (10 * k_e + k3)) + ((mt_m t4).length)) (jv_bI false)).trans ((if_neg (fun e => absurd e.1 (by decide))).trans c_18_367)
                                                              have hth := (xI_q hSn (k := 19) (h := h367) (by decide) rfl 0 ((6 * (10 * k_e + k3)) + ((mt_m t4).length)) (jv_bI false)).trans hth
                                                              have c_19_369 : jv_I (jv_wI h367 (q 19) ((6 * (10 * k_e + k3)) + ((mt_m t4).length)) (jv_bI false)) (q 19) ((6 * (10 * k_e + k3)) + ((mt_m t4).length)) = jv_bI false := jv_I_self _ _ _ _
                                                              generalize jv_wI h367 (q 19) ((6 * (10 * k_e + k3)) + ((mt_m t4).length)) (jv_bI false) = h369 at hF hSn2 c2 c_12_360 c_13_362 c_14_363 c_15_364 c_16_365 c_17_366 c_18_367 hth c_19_369 ⊢
                                                              clear hSn; have hSn := hSn2; clear hSn2
                                                              refine jv_aload_n (q := 377) G 4 dX8_member_376 rfl rfl rfl ?_
                                                              refine jv_getQ (q := 380) G dX8_member_377 fl_X8_41 rfl hSn.1 (rf_p12 hSn) rfl ?_
                                                              refine jv_iload (q := 382) G 3 dX8_member_380 rfl rfl ?_
                                                              refine jv_iald (q := 383) G dX8_member_382 (rf_a12 hSn) rfl (by omega) (by decide) c_12_360 rfl ?_
                                                              refine jv_iret G hr dX8_member_383 (Nat.le_of_ble_eq_true rfl) (Nat.le_of_ble_eq_true rfl) ?_
                                                              have hg : m_mbG t4 (nI 1) o s (nI 3) false (-1) = true := by
                                                                unfold m_mbG; simp only [*, nI_21, nI_12, nI_102, eq_self,  if_true, if_false, Bool.false_eq_true, reduceIte, Bool.and_true, Bool.and_false, Bool.true_and, Bool.false_and, Bool.not_true, Bool.not_false, Bool.true_or, Bool.or_true, Bool.false_or, Option.isNone_some, Option.isNone_none, decide_true, decide_false]
                                                              have hM2 := rf_M.new (w1 := true) (w2 := false) hg (by simp only [*, nI_21, nI_12, nI_102, eq_self,  if_true, if_false, Bool.false_eq_true, reduceIte, Bool.and_true, Bool.and_false, Bool.true_and, Bool.false_and, Bool.not_true, Bool.not_false, Bool.true_or, Bool.or_true, Bool.false_or, Option.isNone_some, Option.isNone_none, decide_true, decide_false]) (by simp only [*, nI_21, nI_12, nI_102, eq_self,  if_true, if_false, Bool.false_eq_true, reduceIte, Bool.and_true, Bool.and_false, Bool.true_and, Bool.false_and, Bool.not_true, Bool.not_false, Bool.true_or, Bool.or_true, Bool.false_or, Option.isNone_some, Option.isNone_none, decide_true, decide_false]) c_13_362 c_14_363 c_15_364 c_16_365 c_17_366 c_18_367 c_19_369
                                                              have hT2 := rf_T.cM (Tt4) Ot4 (by have := Ot4.2.2.2.2.2.1; omega) hF c_12_360 hM2
                                                              refine pO.mk (th := 0) (r := nI ((mt_m t4).length + 1)) (M' := m_put M k_e (false, (ma_t M k_e).set k3 (m_tM t4 (mt_m t4 ++ [m_mbN (nI 1) o s (nI 3) false (-1)])))) ?_ rfl hth (rf_R.ed hR hke hse (hF.mono (fun k j w => o_T_E (i := k3) (by omega) (by unfold k_m at w; unfold o_T k_t k_m; have := Ot4.2.2.2.2.2.1; omega)) (fun _ z => z)) c2 (hE.upd lt4 (hF.mono (W' := o_T (10 * k_e + k3)) (fun k j w => by unfold k_m at w; unfold o_T k_t k_m; have := Ot4.2.2.2.2.2.1; omega) (fun _ z => z)) hT2) (fun z => by cases z)) ((hrs.FW hS0).fr.tr hF.fr)
                                                              unfold m_mb
                                                              rw [m_opT_yes zke hse (by assumption) ht4, if_pos hg, if_neg (by omega)]
                                                            · omega
                                                        · omega
                                                      · refine jv_iconst (q := 255) (v := nI 4) G dX8_member_254 (by decide) rfl ?_
                                                        refine jv_goto (q := 259) G dX8_member_255 (by decide) ?_
                                                        refine jv_putI (q := 262) G dX8_member_259 fl_X8_122 rfl hS.1 rfl ?_
                                                        have hr1 : rs x q h1 (jv_wI h1 x 0 (nI 4)) := rs.rf.wI (nI 4) (Or.inl ⟨rfl, Or.inl rfl⟩)
                                                        have hth : jv_I (jv_wI h1 x 0 (nI 4)) x 0 = (nI 4) := jv_I_self _ _ _ _
                                                        have hR := hr1.R hR
                                                        have hrs := hrs.tr hr1
                                                        generalize jv_wI h1 x 0 (nI 4) = h370 at hth hR hrs ⊢
                                                        obtain ⟨hS, ⟨hn8, hn⟩, ⟨hm12, hm⟩, hD, hV, hCs⟩ := id hR
                                                        have hsc : sc x q h370 h370 := sc.rf
                                                        have hE := (hD k_e (by omega)).2
                                                        have Tt4 := (hE.2.2 k3 t4 ht4).1
                                                        refine jv_aload_n (q := 263) G 3 dX8_member_262 rfl rfl rfl ?_
                                                        refine jv_getI (q := 266) G dX8_member_263 fl_X8_122 rfl hS.1 hth rfl ?_
                                                        refine jv_if_leN (q := 269) (tgt := 271) G dX8_member_266 (by decide) rfl (by omega) (fun c371 => ?_) (fun c371 => ?_)
                                                        · omega
                                                        · refine jv_iconst (q := 270) (v := nI 0) G dX8_member_269 (by decide) rfl ?_
                                                          refine jv_iret G hr dX8_member_270 (Nat.le_of_ble_eq_true rfl) (Nat.le_of_ble_eq_true rfl) ?_
                                                          refine pO.no (M := M) hS0 ?_ rfl hth hR hrs
                                                          unfold m_mb; rw [m_opT_yes zke hse (by assumption) ht4]; unfold m_mbG
                                                          simp only [*, nI_21, nI_12, nI_102, eq_self,  if_true, if_false, Bool.false_eq_true, reduceIte, Bool.and_true, Bool.and_false, Bool.true_and, Bool.false_and, Bool.not_true, Bool.not_false, Bool.true_or, Bool.or_true, Bool.false_or, Option.isNone_some, Option.isNone_none, decide_true, decide_false]
                                                    · omega
                                                · refine jv_topI (y := nI (6 * (10 * k_e + k3) + j352)) (by rw [hj354]; rfl) ?_
                                                  obtain ⟨m353, hm353, wm353, nm353, sm353, lm353⟩ := m_own_some hj354
                                                  have Mm353 := rt_m Tt4 hm353
                                                  have Om353 := Ot4.2.2.2.2.2.2 m353 (List.mem_of_getElem? hm353)
                                                  have Lm353 := Ot4.2.2.2.2.2.1
                                                  have Bm353n := Om353.1; have Bm353s := Om353.2.1; have Bm353a := Om353.2.2.1
                                                  refine jv_iconst (q := 222) (v := (-1)) G dX8_member_221 (by decide) rfl ?_
                                                  refine jv_icmp_ne (q := 225) (tgt := 229) G dX8_member_222 (by decide) rfl (fun c372 => ?_) (fun c372 => ?_)
                                                  · refine jv_iconst (q := 230) (v := nI 0) G dX8_member_229 (by decide) rfl ?_
                                                    refine jv_istore (q := 232) (lo' := [(11, .int (nI 0)), (10, .int (nI 1)), (9, .int (nI (10 * k_e + k3))), (0, .ref x), (1, .int (nI k_e)), (2, .int n), (3, .int (nI 1)), (4, .int o), (5, .int s), (6, .int (nI 3)), (7, .int (jv_bI false)), (8, .int (-1))]) G dX8_member_230 (by decide) rfl rfl ?_
                                                    refine jv_aload_n (q := 233) G 3 dX8_member_232 rfl rfl rfl ?_
                                                    refine jv_iload (q := 235) G 0 dX8_member_233 rfl rfl ?_
                                                    refine jv_if_neN (q := 238) (tgt := 242) G dX8_member_235 (by decide) rfl (by omega) (fun c373 => ?_) (fun c373 => ?_)
                                                    · omega
                                                    · refine jv_iconst (q := 239) (v := nI 3) G dX8_member_238 (by decide) rfl ?_
                                                      refine jv_goto (q := 259) G dX8_member_239 (by decide) ?_
                                                      refine jv_putI (q := 262) G dX8_member_259 fl_X8_122 rfl hS.1 rfl ?_
                                                      have hr1 : rs x q h1 (jv_wI h1 x 0 (nI 3)) := rs.rf.wI (nI 3) (Or.inl ⟨rfl, Or.inl rfl⟩)
                                                      have hth : jv_I (jv_wI h1 x 0 (nI 3)) x 0 = (nI 3) := jv_I_self _ _ _ _
                                                      have hR := hr1.R hR
                                                      have hrs := hrs.tr hr1
                                                      generalize jv_wI h1 x 0 (nI 3) = h374 at hth hR hrs ⊢
                                                      obtain ⟨hS, ⟨hn8, hn⟩, ⟨hm12, hm⟩, hD, hV, hCs⟩ := id hR
                                                      have hsc : sc x q h374 h374 := sc.rf
                                                      have hE := (hD k_e (by omega)).2
                                                      have Tt4 := (hE.2.2 k3 t4 ht4).1
                                                      refine jv_aload_n (q := 263) G 3 dX8_member_262 rfl rfl rfl ?_
                                                      refine jv_getI (q := 266) G dX8_member_263 fl_X8_122 rfl hS.1 hth rfl ?_
                                                      refine jv_if_leN (q := 269) (tgt := 271) G dX8_member_266 (by decide) rfl (by omega) (fun c375 => ?_) (fun c375 => ?_)
                                                      · omega
                                                      · refine jv_iconst (q := 270) (v := nI 0) G dX8_member_269 (by decide) rfl ?_
                                                        refine jv_iret G hr dX8_member_270 (Nat.le_of_ble_eq_true rfl) (Nat.le_of_ble_eq_true rfl) ?_
                                                        refine pO.no (M := M) hS0 ?_ rfl hth hR hrs
                                                        unfold m_mb; rw [m_opT_yes zke hse (by assumption) ht4]; unfold m_mbG
                                                        simp only [*, nI_21, nI_12, nI_102, eq_self,  if_true, if_false, Bool.false_eq_true, reduceIte, Bool.and_true, Bool.and_false, Bool.true_and, Bool.false_and, Bool.not_true, Bool.not_false, Bool.true_or, Bool.or_true, Bool.false_or, Option.isNone_some, Option.isNone_none, decide_true, decide_false]
                                                  · exact absurd c372 (jv_nI_m1 (by omega))
                                          · omega
                                  · omega
  · refine jv_iconst (q := 17) (v := nI 0) G dX8_member_16 (by decide) rfl ?_
    refine jv_iret G hr dX8_member_17 (Nat.le_of_ble_eq_true rfl) (Nat.le_of_ble_eq_true rfl) ?_
    refine pO.no (M := M) hS0 ?_ rfl hth hR hrs
    exact m_opT_no c2
