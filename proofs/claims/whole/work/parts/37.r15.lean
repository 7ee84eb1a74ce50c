theorem m_bd_of {ts : List mT} {p : Nat × Nat} {t : mT} {m : mM} (h1 : ts[p.1]? = some t) (h2 : (mt_m t)[p.2]? = some m) : m_bd ts p = mm_b m := by unfold m_bd; rw [h1]; dsimp only; rw [h2]
def m_ceF (M : mA) (c e : Int32) : Nat := match m_ix1 M.2.length c with
  | none => 1
  | some _ => match m_ix1 M.1.length e with
    | none => 1
    | some i => if ma_s M i then 0 else 2
def m_mtp (M : mA) (C : mC) (i : Nat) (w : Int32) (j : Nat) : Bool := ((mc_l C)[j]?).any (fun U => decide (nI (m_mu M C i U).1 = w))
def m_meets (M : mA) (c e w : Int32) : Int32 := match m_ix1 M.2.length c with
  | none => 0
  | some k => match M.2[k]? with
    | none => 0
    | some C => match m_ix1 M.1.length e with
      | none => 0
      | some i => nI (fb_ct (m_mtp M C i w) (mc_l C).length)
def m_wl (M : mA) (C : mC) (i : Nat) : Nat → Bool
  | 0 => ma_s M i
  | u + 1 => m_wl M C i u && ((mc_l C)[u]?).any (fun U => (m_mu M C i U).1 == 0)
def m_bst (p : Nat → Bool) (old : Bool) : Nat → Option Nat
  | 0 => none
  | e + 1 => if p e && ((m_bst p old e).isNone || !old) then some e else m_bst p old e
def m_best (M : mA) (c : Int32) (old : Bool) : Int32 := match m_ix1 M.2.length c with
  | none => 0
  | some k => match M.2[k]? with
    | none => 0
    | some C => jv_oN (m_bst (fun e => m_wl M C e (mc_l C).length) old M.1.length)
def m_cF (M : mA) (c : Int32) : Nat := match m_ix1 M.2.length c with
  | none => 1
  | some _ => 0
def m_sm (f : Nat → Nat) : Nat → Nat
  | 0 => 0
  | n + 1 => m_sm f n + f n
def m_ml (ts : List mT) (k : Nat) : Nat := ((ts[k]?).map (fun t => (mt_m t).length)).getD 0
def m_eF (M : mA) (e : Int32) : Nat := match m_ix1 M.1.length e with
  | none => 1
  | some _ => 0
def m_look (M : mA) (e w : Int32) : Int32 := match m_ix1 M.1.length e with
  | none => 0
  | some i => if w = 0 then jv_bI (ma_s M i) else if w = nI 1 then nI (ma_t M i).length else if w = nI 2 then nI (m_sm (m_ml (ma_t M i)) (ma_t M i).length) else -1
theorem bst_lt {p : Nat → Bool} {old : Bool} : ∀ {n k : Nat}, m_bst p old n = some k → k < n
  | 0, k, h => by cases h
  | n + 1, k, h => by
    rw [m_bst] at h
    split at h
    · cases h; omega
    · have := bst_lt h; omega
theorem sm_le {f : Nat → Nat} {b : Nat} : ∀ {n : Nat}, (∀ k, k < n → f k ≤ b) → m_sm f n ≤ b * n
  | 0, _ => Nat.zero_le _
  | n + 1, h => by
    have h1 := sm_le (n := n) (fun k hk => h k (by omega))
    have h2 := h n (by omega)
    rw [m_sm, Nat.mul_succ]
    omega
set_option maxHeartbeats 4000000 in
set_option maxRecDepth 100000 in
theorem r_copied {lA : Launch} (hlt : lA.stackTraces = false) {D : jv_D} {base : Nat} {x : Nat} {q : Nat → Nat} {h : jv_H} {M : mA} {c u : Int32} (hR : rf_R x q h M) : jv_Met lA D base yX8_copied (.code yX8_copied cX8_copied 5 (some .int)) 16 0 0 [.ref x, .int c, .int u] h (fun v h' => ∃ r, v = some (.int r) ∧ ((m_cpF M c u) = 0 → r = m_copied M c u) ∧ jv_I h' x 0 = nI (m_cpF M c u) ∧ rs x q h h') jv_no := by
  refine jv_ofV (lo := [(0, .ref x), (1, .int c), (2, .int u)]) hlt (by decide) (Nat.le_of_ble_eq_true rfl) rfl (fun E hEl hEd hEz Z G hr ht hnm => ?_)
  subst hEl; subst hEd; subst hEz
  obtain ⟨hS, ⟨hn8, hn⟩, ⟨hm12, hm⟩, hD, hV, hCs⟩ := id hR
  have hrs : rs x q h h := rs.rf
  refine jv_aload_n (q := 1) G 0 dX8_copied_0 rfl rfl rfl ?_
  refine jv_aload_n (q := 2) G 0 dX8_copied_1 rfl rfl rfl ?_
  refine jv_iload_n (q := 3) G 1 dX8_copied_2 rfl rfl rfl ?_
  refine jv_callV_I (q := 6) (h1 := h) (As := [.int c]) (rest := [.ref x]) (ce' := 0) (sl' := 0) (r := jv_bI (rr_lt c M.2.length)) G Z ml_X8_205 (r_isCaller hlt hS hm) hS.1 dX8_copied_3 rfl (by decide) (by decide) (by decide) (by decide) (Nat.le_of_ble_eq_true rfl) rfl rfl rfl rfl ?_
  refine jv_if_eqB (q := 9) (tgt := 23) G dX8_copied_6 (by decide) rfl (fun c1 => ?_) (fun c1 => ?_)
  · have zc := rr_lt_f c1
    refine jv_iconst (q := 24) (v := nI 1) G dX8_copied_23 (by decide) rfl ?_
    refine jv_goto (q := 28) G dX8_copied_24 (by decide) ?_
    refine jv_putI (q := 31) G dX8_copied_28 fl_X8_122 rfl hS.1 rfl ?_
    have hr1 : rs x q h (jv_wI h x 0 (nI 1)) := rs.rf.wI (nI 1) (Or.inl ⟨rfl, Or.inl rfl⟩)
    have hth : jv_I (jv_wI h x 0 (nI 1)) x 0 = (nI 1) := jv_I_self _ _ _ _
    have hR := hr1.R hR
    have hrs := hrs.tr hr1
    generalize jv_wI h x 0 (nI 1) = h2 at hth hR hrs ⊢
    obtain ⟨hS, ⟨hn8, hn⟩, ⟨hm12, hm⟩, hD, hV, hCs⟩ := id hR
    have hsc : sc x q h2 h2 := sc.rf
    refine jv_aload_n (q := 32) G 0 dX8_copied_31 rfl rfl rfl ?_
    refine jv_getI (q := 35) G dX8_copied_32 fl_X8_122 rfl hS.1 hth rfl ?_
    refine jv_if_leN (q := 38) (tgt := 40) G dX8_copied_35 (by decide) rfl (by omega) (fun c3 => ?_) (fun c3 => ?_)
    · omega
    · refine jv_iconst (q := 39) (v := nI 0) G dX8_copied_38 (by decide) rfl ?_
      refine jv_iret G hr dX8_copied_39 (Nat.le_of_ble_eq_true rfl) (Nat.le_of_ble_eq_true rfl) ?_
      refine ⟨_, rfl, fun hz => ?_, ?_, hrs⟩
      · first
          | (unfold m_copied m_u2; simp only [*, if_true, if_false, Bool.false_eq_true, reduceIte] <;> rfl)
          | (exfalso; revert hz; unfold m_cpF m_u2; simp [*]; done)
          | (exfalso; revert hz; unfold m_cpF m_u2; cases hq : m_ix1 M.1.length e <;> simp [*]; done)
          | (unfold m_copied m_u2; simp_all; done)
      · rw [hth]; first
          | (unfold m_cpF m_u2; simp only [*, if_true, if_false, Bool.false_eq_true, reduceIte]; done)
          | (unfold m_cpF m_u2; simp only [*, if_true, if_false, Bool.false_eq_true, reduceIte] <;> rfl)
          | (unfold m_cpF m_u2; cases hq : m_ix1 M.1.length e <;> simp [*])
  · obtain ⟨k_c, hk_c, ek_c, zc⟩ := rr_lt_t (by omega) c1
    subst ek_c
    obtain ⟨C, hC⟩ := jv_getLt (l := M.2) (k := k_c) (by omega)
    obtain ⟨hC1, hok⟩ := hCs k_c C hC
    have hl20 := hok.2.2.2.2.1
    refine jv_iload_n (q := 10) G 2 dX8_copied_9 rfl rfl rfl ?_
    refine jv_if_lt (q := 13) (tgt := 23) G dX8_copied_10 (by decide) rfl (fun c4 => ?_) (fun c4 => ?_)
    · have zu : m_ix1 (mc_l C).length u = none := ix_neg c4
      refine jv_iconst (q := 24) (v := nI 1) G dX8_copied_23 (by decide) rfl ?_
      refine jv_goto (q := 28) G dX8_copied_24 (by decide) ?_
      refine jv_putI (q := 31) G dX8_copied_28 fl_X8_122 rfl hS.1 rfl ?_
      have hr1 : rs x q h (jv_wI h x 0 (nI 1)) := rs.rf.wI (nI 1) (Or.inl ⟨rfl, Or.inl rfl⟩)
      have hth : jv_I (jv_wI h x 0 (nI 1)) x 0 = (nI 1) := jv_I_self _ _ _ _
      have hR := hr1.R hR
      have hrs := hrs.tr hr1
      generalize jv_wI h x 0 (nI 1) = h5 at hth hR hrs ⊢
      obtain ⟨hS, ⟨hn8, hn⟩, ⟨hm12, hm⟩, hD, hV, hCs⟩ := id hR
      have hsc : sc x q h5 h5 := sc.rf
      obtain ⟨hC1, hok⟩ := hCs k_c C hC
      refine jv_aload_n (q := 32) G 0 dX8_copied_31 rfl rfl rfl ?_
      refine jv_getI (q := 35) G dX8_copied_32 fl_X8_122 rfl hS.1 hth rfl ?_
      refine jv_if_leN (q := 38) (tgt := 40) G dX8_copied_35 (by decide) rfl (by omega) (fun c6 => ?_) (fun c6 => ?_)
      · omega
      · refine jv_iconst (q := 39) (v := nI 0) G dX8_copied_38 (by decide) rfl ?_
        refine jv_iret G hr dX8_copied_39 (Nat.le_of_ble_eq_true rfl) (Nat.le_of_ble_eq_true rfl) ?_
        refine ⟨_, rfl, fun hz => ?_, ?_, hrs⟩
        · first
            | (unfold m_copied m_u2; simp only [*, if_true, if_false, Bool.false_eq_true, reduceIte] <;> rfl)
            | (exfalso; revert hz; unfold m_cpF m_u2; simp [*]; done)
            | (exfalso; revert hz; unfold m_cpF m_u2; cases hq : m_ix1 M.1.length e <;> simp [*]; done)
            | (unfold m_copied m_u2; simp_all; done)
        · rw [hth]; first
            | (unfold m_cpF m_u2; simp only [*, if_true, if_false, Bool.false_eq_true, reduceIte]; done)
            | (unfold m_cpF m_u2; simp only [*, if_true, if_false, Bool.false_eq_true, reduceIte] <;> rfl)
            | (unfold m_cpF m_u2; cases hq : m_ix1 M.1.length e <;> simp [*])
    · refine jv_iload_n (q := 14) G 2 dX8_copied_13 rfl rfl rfl ?_
      refine jv_aload_n (q := 15) G 0 dX8_copied_14 rfl rfl rfl ?_
      refine jv_getQ (q := 18) G dX8_copied_15 fl_X8_77 rfl hS.1 (rf_p25 hS) rfl ?_
      refine jv_iload_n (q := 19) G 1 dX8_copied_18 rfl rfl rfl ?_
      refine jv_iald (q := 20) G dX8_copied_19 (rf_a25 hS) rfl (by omega) (by decide) hC1.2.2.2.1 rfl ?_
      refine jv_icmp_lt (q := 23) (tgt := 27) G dX8_copied_20 (by decide) rfl (fun c7 => ?_) (fun c7 => ?_)
      · obtain ⟨k_u, hku, eku, zu⟩ := ix_in (by omega) c4 c7
        subst eku
        obtain ⟨U, hU⟩ := jv_getLt (l := mc_l C) (k := k_u) (by omega)
        refine jv_iconst (q := 28) (v := nI 0) G dX8_copied_27 (by decide) rfl ?_
        refine jv_putI (q := 31) G dX8_copied_28 fl_X8_122 rfl hS.1 rfl ?_
        have hr1 : rs x q h (jv_wI h x 0 (nI 0)) := rs.rf.wI (nI 0) (Or.inl ⟨rfl, Or.inl rfl⟩)
        have hth : jv_I (jv_wI h x 0 (nI 0)) x 0 = (nI 0) := jv_I_self _ _ _ _
        have hR := hr1.R hR
        have hrs := hrs.tr hr1
        generalize jv_wI h x 0 (nI 0) = h8 at hth hR hrs ⊢
        obtain ⟨hS, ⟨hn8, hn⟩, ⟨hm12, hm⟩, hD, hV, hCs⟩ := id hR
        have hsc : sc x q h8 h8 := sc.rf
        obtain ⟨hC1, hok⟩ := hCs k_c C hC
        refine jv_aload_n (q := 32) G 0 dX8_copied_31 rfl rfl rfl ?_
        refine jv_getI (q := 35) G dX8_copied_32 fl_X8_122 rfl hS.1 hth rfl ?_
        refine jv_if_leN (q := 38) (tgt := 40) G dX8_copied_35 (by decide) rfl (by omega) (fun c9 => ?_) (fun c9 => ?_)
        · refine jv_bipush (q := 42) (v := nI 20) G dX8_copied_40 (by decide) rfl ?_
          refine jv_iload_n (q := 43) G 1 dX8_copied_42 rfl rfl rfl ?_
          refine jv_imulN (q := 44) G dX8_copied_43 rfl ?_
          refine jv_iload_n (q := 45) G 2 dX8_copied_44 rfl rfl rfl ?_
          refine jv_iaddN (q := 46) G dX8_copied_45 rfl ?_
          refine jv_istore_n (q := 47) (lo' := [(3, .int (nI ((20 * k_c) + k_u))), (0, .ref x), (1, .int (nI k_c)), (2, .int (nI k_u))]) G dX8_copied_46 rfl (by decide) rfl rfl ?_
          refine jv_aload_n (q := 48) G 1 dX8_copied_47 rfl rfl rfl ?_
          refine jv_iload_n (q := 49) G 2 dX8_copied_48 rfl rfl rfl ?_
          refine jv_aload_n (q := 50) G 1 dX8_copied_49 rfl rfl rfl ?_
          refine jv_getQ (q := 53) G dX8_copied_50 fl_X8_80 rfl hS.1 (rf_p26 hS) rfl ?_
          refine jv_iload_n (q := 54) G 0 dX8_copied_53 rfl rfl rfl ?_
          refine jv_iald (q := 55) G dX8_copied_54 (rf_a26 hS) rfl (by omega) (by decide) (hC1.2.2.2.2 k_u U hU).1 rfl ?_
          refine jv_aload_n (q := 56) G 1 dX8_copied_55 rfl rfl rfl ?_
          refine jv_getQ (q := 59) G dX8_copied_56 fl_X8_83 rfl hS.1 (rf_p27 hS) rfl ?_
          refine jv_iload_n (q := 60) G 0 dX8_copied_59 rfl rfl rfl ?_
          refine jv_iald (q := 61) G dX8_copied_60 (rf_a27 hS) rfl (by omega) (by decide) (hC1.2.2.2.2 k_u U hU).2.1 rfl ?_
          refine jv_aload_n (q := 62) G 1 dX8_copied_61 rfl rfl rfl ?_
          refine jv_getQ (q := 65) G dX8_copied_62 fl_X8_86 rfl hS.1 (rf_p28 hS) rfl ?_
          refine jv_iload_n (q := 66) G 0 dX8_copied_65 rfl rfl rfl ?_
          refine jv_iald (q := 67) G dX8_copied_66 (rf_a28 hS) rfl (by omega) (by decide) (hC1.2.2.2.2 k_u U hU).2.2.1 rfl ?_
          refine jv_aload_n (q := 68) G 1 dX8_copied_67 rfl rfl rfl ?_
          refine jv_getQ (q := 71) G dX8_copied_68 fl_X8_89 rfl hS.1 (rf_p29 hS) rfl ?_
          refine jv_iload_n (q := 72) G 0 dX8_copied_71 rfl rfl rfl ?_
          refine jv_iald (q := 73) G dX8_copied_72 (rf_a29 hS) rfl (by omega) (by decide) (hC1.2.2.2.2 k_u U hU).2.2.2.1 rfl ?_
          have hec : mc_e C < 8 := by have := hok.1; omega
          have hk6 := hok.2.2.2.2.2 U (List.mem_of_getElem? hU)
          have hE := (hD _ hec).2
          refine jv_callV_I (q := 76) (h1 := h8) (As := [.int (nI k_c), .int (nI (mu_k U)), .int (mu_t U), .int (mu_n U), .int (mu_s U)]) (rest := []) (ce' := 0) (sl' := 0) (r := (ffE (mc_e C) (m_co (ma_t M (mc_e C)) (mu_k U) (mu_t U) (mu_n U) (mu_s U)))) G Z ml_X8_195 (r_constantOf hlt hsc hS (by omega) hec hE hC1.1 hk6 (hV _ hec hok.2.1).2) hS.1 dX8_copied_73 rfl (by decide) (by decide) (by decide) (by decide) (Nat.le_of_ble_eq_true rfl) rfl rfl rfl rfl ?_
          rcases Option.eq_none_or_eq_some (m_co (ma_t M (mc_e C)) (mu_k U) (mu_t U) (mu_n U) (mu_s U)) with hp13 | ⟨p10, hp13⟩
          · refine jv_topI (y := (-1)) (by rw [hp13]; rfl) ?_
            refine jv_istore (q := 78) (lo' := [(4, .int (-1)), (3, .int (nI ((20 * k_c) + k_u))), (0, .ref x), (1, .int (nI k_c)), (2, .int (nI k_u))]) G dX8_copied_76 (by decide) rfl rfl ?_
            refine jv_iload (q := 80) G 0 dX8_copied_78 rfl rfl ?_
            refine jv_iconst (q := 81) (v := (-1)) G dX8_copied_80 (by decide) rfl ?_
            refine jv_icmp_ne (q := 84) (tgt := 88) G dX8_copied_81 (by decide) rfl (fun c14 => ?_) (fun c14 => ?_)
            · exact absurd rfl c14
            · refine jv_iconst (q := 85) (v := (-1)) G dX8_copied_84 (by decide) rfl ?_
              refine jv_goto (q := 95) G dX8_copied_85 (by decide) ?_
              refine jv_iret G hr dX8_copied_95 (Nat.le_of_ble_eq_true rfl) (Nat.le_of_ble_eq_true rfl) ?_
              refine ⟨_, rfl, fun hz => ?_, ?_, hrs⟩
              · first
                  | (unfold m_copied m_u2; simp only [*]; exact (m_bd_of (by assumption) (by assumption)).symm)
                  | (unfold m_copied m_u2; simp only [*, if_true, if_false, Bool.false_eq_true, reduceIte] <;> rfl)
                  | (exfalso; revert hz; unfold m_cpF m_u2; simp [*]; done)
                  | (exfalso; revert hz; unfold m_cpF m_u2; cases hq : m_ix1 M.1.length e <;> simp [*]; done)
                  | (unfold m_copied m_u2; simp_all; done)
              · rw [hth]; first
                  | (unfold m_cpF m_u2; simp only [*, if_true, if_false, Bool.false_eq_true, reduceIte]; done)
                  | (unfold m_cpF m_u2; simp only [*, if_true, if_false, Bool.false_eq_true, reduceIte] <;> rfl)
                  | (unfold m_cpF m_u2; cases hq : m_ix1 M.1.length e <;> simp [*])
          · refine jv_topI (y := nI (6 * (10 * (mc_e C) + p10.1) + p10.2)) (by rw [hp13]; rfl) ?_
            obtain ⟨t11, ht11, m12, hm12⟩ := m_co_mem hp13
            have Tt11 := (hE.2.2 p10.1 t11 ht11).1
            have Ot11 := (hE.2.2 p10.1 t11 ht11).2
            have Lt11 := hE.2.1
            have lt11 := jv_ltGet ht11
            have Mm12 := rt_m Tt11 hm12
            have Om12 := Ot11.2.2.2.2.2.2 m12 (List.mem_of_getElem? hm12)
            have Lm12 := Ot11.2.2.2.2.2.1
            have lm12 := jv_ltGet hm12
            have Bm12n := Om12.1; have Bm12s := Om12.2.1; have Bm12a := Om12.2.2.1; have Bt11n := Ot11.1; have Bt11k := Ot11.2.1
            refine jv_istore (q := 78) (lo' := [(4, .int (nI (6 * (10 * (mc_e C) + p10.1) + p10.2))), (3, .int (nI ((20 * k_c) + k_u))), (0, .ref x), (1, .int (nI k_c)), (2, .int (nI k_u))]) G dX8_copied_76 (by decide) rfl rfl ?_
            refine jv_iload (q := 80) G 0 dX8_copied_78 rfl rfl ?_
            refine jv_iconst (q := 81) (v := (-1)) G dX8_copied_80 (by decide) rfl ?_
            refine jv_icmp_ne (q := 84) (tgt := 88) G dX8_copied_81 (by decide) rfl (fun c15 => ?_) (fun c15 => ?_)
            · refine jv_aload_n (q := 89) G 2 dX8_copied_88 rfl rfl rfl ?_
              refine jv_getQ (q := 92) G dX8_copied_89 fl_X8_59 rfl hS.1 (rf_p18 hS) rfl ?_
              refine jv_iload (q := 94) G 0 dX8_copied_92 rfl rfl ?_
              refine jv_iald (q := 95) G dX8_copied_94 (rf_a18 hS) rfl (by omega) (by decide) (hsc.M hS Mm12).2.2.2.2.2.1 rfl ?_
              refine jv_iret G hr dX8_copied_95 (Nat.le_of_ble_eq_true rfl) (Nat.le_of_ble_eq_true rfl) ?_
              refine ⟨_, rfl, fun hz => ?_, ?_, hrs⟩
              · first
                  | (unfold m_copied m_u2; simp only [*]; exact (m_bd_of (by assumption) (by assumption)).symm)
                  | (unfold m_copied m_u2; simp only [*, if_true, if_false, Bool.false_eq_true, reduceIte] <;> rfl)
                  | (exfalso; revert hz; unfold m_cpF m_u2; simp [*]; done)
                  | (exfalso; revert hz; unfold m_cpF m_u2; cases hq : m_ix1 M.1.length e <;> simp [*]; done)
                  | (unfold m_copied m_u2; simp_all; done)
              · rw [hth]; first
                  | (unfold m_cpF m_u2; simp only [*, if_true, if_false, Bool.false_eq_true, reduceIte]; done)
                  | (unfold m_cpF m_u2; simp only [*, if_true, if_false, Bool.false_eq_true, reduceIte] <;> rfl)
                  | (unfold m_cpF m_u2; cases hq : m_ix1 M.1.length e <;> simp [*])
            · exact absurd c15 (jv_nI_m1 (by omega))
        · omega
      · have zu : m_ix1 (mc_l C).length u = none := ix_ge c7
        refine jv_iconst (q := 24) (v := nI 1) G dX8_copied_23 (by decide) rfl ?_
        refine jv_goto (q := 28) G dX8_copied_24 (by decide) ?_
        refine jv_putI (q := 31) G dX8_copied_28 fl_X8_122 rfl hS.1 rfl ?_
        have hr1 : rs x q h (jv_wI h x 0 (nI 1)) := rs.rf.wI (nI 1) (Or.inl ⟨rfl, Or.inl rfl⟩)
        have hth : jv_I (jv_wI h x 0 (nI 1)) x 0 = (nI 1) := jv_I_self _ _ _ _
        have hR := hr1.R hR
        have hrs := hrs.tr hr1
        generalize jv_wI h x 0 (nI 1) = h16 at hth hR hrs ⊢
        obtain ⟨hS, ⟨hn8, hn⟩, ⟨hm12, hm⟩, hD, hV, hCs⟩ := id hR
        have hsc : sc x q h16 h16 := sc.rf
        obtain ⟨hC1, hok⟩ := hCs k_c C hC
        refine jv_aload_n (q := 32) G 0 dX8_copied_31 rfl rfl rfl ?_
        refine jv_getI (q := 35) G dX8_copied_32 fl_X8_122 rfl hS.1 hth rfl ?_
        refine jv_if_leN (q := 38) (tgt := 40) G dX8_copied_35 (by decide) rfl (by omega) (fun c17 => ?_) (fun c17 => ?_)
        · omega
        · refine jv_iconst (q := 39) (v := nI 0) G dX8_copied_38 (by decide) rfl ?_
          refine jv_iret G hr dX8_copied_39 (Nat.le_of_ble_eq_true rfl) (Nat.le_of_ble_eq_true rfl) ?_
          refine ⟨_, rfl, fun hz => ?_, ?_, hrs⟩
          · first
              | (unfold m_copied m_u2; simp only [*, if_true, if_false, Bool.false_eq_true, reduceIte] <;> rfl)
              | (exfalso; revert hz; unfold m_cpF m_u2; simp [*]; done)
              | (exfalso; revert hz; unfold m_cpF m_u2; cases hq : m_ix1 M.1.length e <;> simp [*]; done)
              | (unfold m_copied m_u2; simp_all; done)
          · rw [hth]; first
              | (unfold m_cpF m_u2; simp only [*, if_true, if_false, Bool.false_eq_true, reduceIte]; done)
              | (unfold m_cpF m_u2; simp only [*, if_true, if_false, Bool.false_eq_true, reduceIte] <;> rfl)
              | (unfold m_cpF m_u2; cases hq : m_ix1 M.1.length e <;> simp [*])
set_option maxHeartbeats 4000000 in
set_option maxRecDepth 100000 in
theorem r_meets_loop {E : jv_E} {x : Nat} {q : Nat → Nat} {h : jv_H} {M : mA} {C : mC} {k_c k_e : Nat} {Q : State → Prop} {w : Int32} (hlt : (jv_l E).stackTraces = false) (G : jv_C E cX8_meets RX8 6) (Z : jv_rm E = jv_room 17 0 0) (hC : M.2[k_c]? = some C) (hke : k_e < M.1.length) (hse : ma_s M k_e = true) (hK : ∀ h2, rs x q h h2 → jv_I h2 x 0 = nI 0 → jv_V E 6 h2 0 0 Q 92 [(4, .int (nI (fb_ct (m_mtp M C k_e w) (mc_l C).length)))] []) : ∀ (m u : Nat) (h1 : jv_H), u + m = (mc_l C).length → rs x q h h1 → rf_R x q h1 M → jv_I h1 x 0 = nI 0 → jv_V E 6 h1 0 0 Q 53 [(5, .int (nI u)), (4, .int (nI (fb_ct (m_mtp M C k_e w) u))), (0, .ref x), (1, .int (nI k_c)), (2, .int (nI k_e)), (3, .int w)] [] := by
  intro m
  induction m with
  | zero =>
    intro u h1 hu hrs hR hth
    obtain ⟨hS, ⟨hn8, hn⟩, ⟨hm12, hm⟩, hD, hV, hCs⟩ := id hR
    obtain ⟨hC1, hok⟩ := hCs k_c C hC
    have hl20 := hok.2.2.2.2.1
    have hkc := jv_ltGet hC
    refine jv_iload (q := 55) G 0 dX8_meets_53 rfl rfl ?_
    refine jv_aload_n (q := 56) G 2 dX8_meets_55 rfl rfl rfl ?_
    refine jv_getQ (q := 59) G dX8_meets_56 fl_X8_77 rfl hS.1 (rf_p25 hS) rfl ?_
    refine jv_iload_n (q := 60) G 3 dX8_meets_59 rfl rfl rfl ?_
    refine jv_iald (q := 61) G dX8_meets_60 (rf_a25 hS) rfl (by omega) (by decide) hC1.2.2.2.1 rfl ?_
    refine jv_icmp_geN (q := 64) (tgt := 92) G dX8_meets_61 (by decide) rfl (by omega) (by omega) (fun c1 => ?_) (fun c1 => ?_)
    · refine jv_lo [1] (lo' := [(4, .int (nI (fb_ct (m_mtp M C k_e w) u)))]) rfl ?_
      have eu : u = (mc_l C).length := by omega
      rw [eu]; exact hK _ hrs hth
    · omega
  | succ m ih =>
    intro u h1 hu hrs hR hth
    obtain ⟨hS, ⟨hn8, hn⟩, ⟨hm12, hm⟩, hD, hV, hCs⟩ := id hR
    obtain ⟨hC1, hok⟩ := hCs k_c C hC
    have hl20 := hok.2.2.2.2.1
    have hkc := jv_ltGet hC
    obtain ⟨U, hU⟩ := jv_getLt (l := mc_l C) (k := u) (by omega)
    refine jv_iload (q := 55) G 0 dX8_meets_53 rfl rfl ?_
    refine jv_aload_n (q := 56) G 2 dX8_meets_55 rfl rfl rfl ?_
    refine jv_getQ (q := 59) G dX8_meets_56 fl_X8_77 rfl hS.1 (rf_p25 hS) rfl ?_
    refine jv_iload_n (q := 60) G 3 dX8_meets_59 rfl rfl rfl ?_
    refine jv_iald (q := 61) G dX8_meets_60 (rf_a25 hS) rfl (by omega) (by decide) hC1.2.2.2.1 rfl ?_
    refine jv_icmp_geN (q := 64) (tgt := 92) G dX8_meets_61 (by decide) rfl (by omega) (by omega) (fun c1 => ?_) (fun c1 => ?_)
    · omega
    · refine jv_iload (q := 66) G 1 dX8_meets_64 rfl rfl ?_
      refine jv_aload_n (q := 67) G 2 dX8_meets_66 rfl rfl rfl ?_
      refine jv_iload_n (q := 68) G 3 dX8_meets_67 rfl rfl rfl ?_
      refine jv_iload_n (q := 69) G 4 dX8_meets_68 rfl rfl rfl ?_
      refine jv_iload (q := 71) G 0 dX8_meets_69 rfl rfl ?_
      refine jv_callV (q := 74) (As := [.int (nI k_c), .int (nI k_e), .int (nI u)]) (rest := [.int (nI (fb_ct (m_mtp M C k_e w) u))]) G Z ml_X8_215 (r_meetsUse hlt hR hC hU (by omega) hse) hS.1 dX8_meets_71 rfl (by decide) (by decide) (by decide) (by decide) (Nat.le_of_ble_eq_true rfl) rfl rfl (fun v3 h2 y4 => ?_) (fun _ _ hx => hx.elim)
      obtain ⟨rfl, hr2, hran, hx0⟩ := y4
      show jv_V E 6 h2 0 0 Q 74 [(5, .int (nI u)), (4, .int (nI (fb_ct (m_mtp M C k_e w) u))), (0, .ref x), (1, .int (nI k_c)), (2, .int (nI k_e)), (3, .int w)] [.int (nI ((m_mu M C k_e U).1)), .int (nI (fb_ct (m_mtp M C k_e w) u))]
      have hmu := mu_lt M C k_e U
      have hR := hr2.R hR
      have hth := hx0.trans hth
      have hrs := hrs.tr hr2
      obtain ⟨hS, ⟨hn8, hn⟩, ⟨hm12, hm⟩, hD, hV, hCs⟩ := id hR
      refine jv_iload_n (q := 75) G 5 dX8_meets_74 rfl rfl rfl ?_
      refine jv_icmp_ne (q := 78) (tgt := 82) G dX8_meets_75 (by decide) rfl (fun c5 => ?_) (fun c5 => ?_)
      · refine jv_iconst (q := 83) (v := nI 0) G dX8_meets_82 (by decide) rfl ?_
        refine jv_iaddN (q := 84) G dX8_meets_83 rfl ?_
        refine jv_istore (q := 86) (lo' := [(4, .int (nI ((fb_ct (m_mtp M C k_e w) u) + 0))), (5, .int (nI u)), (0, .ref x), (1, .int (nI k_c)), (2, .int (nI k_e)), (3, .int w)]) G dX8_meets_84 (by decide) rfl rfl ?_
        refine jv_iinc (q := 89) (lo' := [(5, .int (nI (u + 1))), (4, .int (nI ((fb_ct (m_mtp M C k_e w) u) + 0))), (0, .ref x), (1, .int (nI k_c)), (2, .int (nI k_e)), (3, .int w)]) (v := nI (u + 1)) G 1 dX8_meets_86 rfl (nI_1 u) (by decide) rfl rfl ?_
        refine jv_goto (q := 53) G dX8_meets_89 (by decide) ?_
        have ea : fb_ct (m_mtp M C k_e w) u + 0 = fb_ct (m_mtp M C k_e w) (u + 1) := by
          rw [fb_ct_succ, if_neg (by unfold m_mtp; rw [hU]; simp [c5])]
        refine jv_lo [0, 1, 2, 3, 4, 5] (lo' := [(5, .int (nI (u + 1))), (4, .int (nI ((fb_ct (m_mtp M C k_e w) u) + 0))), (0, .ref x), (1, .int (nI k_c)), (2, .int (nI k_e)), (3, .int w)]) rfl ?_
        rw [ea]; exact ih (u + 1) _ (by omega) hrs hR hth
      · refine jv_iconst (q := 79) (v := nI 1) G dX8_meets_78 (by decide) rfl ?_
        refine jv_goto (q := 83) G dX8_meets_79 (by decide) ?_
        refine jv_iaddN (q := 84) G dX8_meets_83 rfl ?_
        refine jv_istore (q := 86) (lo' := [(4, .int (nI ((fb_ct (m_mtp M C k_e w) u) + 1))), (5, .int (nI u)), (0, .ref x), (1, .int (nI k_c)), (2, .int (nI k_e)), (3, .int w)]) G dX8_meets_84 (by decide) rfl rfl ?_
        refine jv_iinc (q := 89) (lo' := [(5, .int (nI (u + 1))), (4, .int (nI ((fb_ct (m_mtp M C k_e w) u) + 1))), (0, .ref x), (1, .int (nI k_c)), (2, .int (nI k_e)), (3, .int w)]) (v := nI (u + 1)) G 1 dX8_meets_86 rfl (nI_1 u) (by decide) rfl rfl ?_
        refine jv_goto (q := 53) G dX8_meets_89 (by decide) ?_
        have ea : fb_ct (m_mtp M C k_e w) u + 1 = fb_ct (m_mtp M C k_e w) (u + 1) := by
          rw [fb_ct_succ, if_pos (by unfold m_mtp; rw [hU]; simp [c5])]
        refine jv_lo [0, 1, 2, 3, 4, 5] (lo' := [(5, .int (nI (u + 1))), (4, .int (nI ((fb_ct (m_mtp M C k_e w) u) + 1))), (0, .ref x), (1, .int (nI k_c)), (2, .int (nI k_e)), (3, .int w)]) rfl ?_
        rw [ea]; exact ih (u + 1) _ (by omega) hrs hR hth
set_option maxHeartbeats 4000000 in
set_option maxRecDepth 100000 in
theorem r_meets {lA : Launch} (hlt : lA.stackTraces = false) {D : jv_D} {base : Nat} {x : Nat} {q : Nat → Nat} {h : jv_H} {M : mA} {c e w : Int32} (hR : rf_R x q h M) : jv_Met lA D base yX8_meets (.code yX8_meets cX8_meets 6 (some .int)) 17 0 0 [.ref x, .int c, .int e, .int w] h (fun v h' => ∃ r, v = some (.int r) ∧ ((m_ceF M c e) = 0 → r = m_meets M c e w) ∧ jv_I h' x 0 = nI (m_ceF M c e) ∧ rs x q h h') jv_no := by
  refine jv_ofV (lo := [(0, .ref x), (1, .int c), (2, .int e), (3, .int w)]) hlt (by decide) (Nat.le_of_ble_eq_true rfl) rfl (fun E hEl hEd hEz Z G hr ht hnm => ?_)
  subst hEl; subst hEd; subst hEz
  obtain ⟨hS, ⟨hn8, hn⟩, ⟨hm12, hm⟩, hD, hV, hCs⟩ := id hR
  have hrs : rs x q h h := rs.rf
  refine jv_aload_n (q := 1) G 0 dX8_meets_0 rfl rfl rfl ?_
  refine jv_aload_n (q := 2) G 0 dX8_meets_1 rfl rfl rfl ?_
  refine jv_iload_n (q := 3) G 1 dX8_meets_2 rfl rfl rfl ?_
  refine jv_callV_I (q := 6) (h1 := h) (As := [.int c]) (rest := [.ref x]) (ce' := 0) (sl' := 0) (r := jv_bI (rr_lt c M.2.length)) G Z ml_X8_205 (r_isCaller hlt hS hm) hS.1 dX8_meets_3 rfl (by decide) (by decide) (by decide) (by decide) (Nat.le_of_ble_eq_true rfl) rfl rfl rfl rfl ?_
  refine jv_if_eqB (q := 9) (tgt := 17) G dX8_meets_6 (by decide) rfl (fun c1 => ?_) (fun c1 => ?_)
  · have zc := rr_lt_f c1
    refine jv_iconst (q := 18) (v := nI 1) G dX8_meets_17 (by decide) rfl ?_
    refine jv_goto (q := 35) G dX8_meets_18 (by decide) ?_
    refine jv_putI (q := 38) G dX8_meets_35 fl_X8_122 rfl hS.1 rfl ?_
    have hr1 : rs x q h (jv_wI h x 0 (nI 1)) := rs.rf.wI (nI 1) (Or.inl ⟨rfl, Or.inl rfl⟩)
    have hth : jv_I (jv_wI h x 0 (nI 1)) x 0 = (nI 1) := jv_I_self _ _ _ _
    have hR := hr1.R hR
    have hrs := hrs.tr hr1
    generalize jv_wI h x 0 (nI 1) = h2 at hth hR hrs ⊢
    obtain ⟨hS, ⟨hn8, hn⟩, ⟨hm12, hm⟩, hD, hV, hCs⟩ := id hR
    have hsc : sc x q h2 h2 := sc.rf
    refine jv_aload_n (q := 39) G 0 dX8_meets_38 rfl rfl rfl ?_
    refine jv_getI (q := 42) G dX8_meets_39 fl_X8_122 rfl hS.1 hth rfl ?_
    refine jv_if_leN (q := 45) (tgt := 47) G dX8_meets_42 (by decide) rfl (by omega) (fun c3 => ?_) (fun c3 => ?_)
    · omega
    · refine jv_iconst (q := 46) (v := nI 0) G dX8_meets_45 (by decide) rfl ?_
      refine jv_iret G hr dX8_meets_46 (Nat.le_of_ble_eq_true rfl) (Nat.le_of_ble_eq_true rfl) ?_
      refine ⟨_, rfl, fun hz => ?_, ?_, hrs⟩
      · first
          | (unfold m_meets; simp only [*, if_true, if_false, Bool.false_eq_true, reduceIte] <;> rfl)
          | (exfalso; revert hz; unfold m_ceF; simp [*]; done)
          | (exfalso; revert hz; unfold m_ceF; cases hq : m_ix1 M.1.length e <;> simp [*]; done)
          | (unfold m_meets; simp_all; done)
      · rw [hth]; first
          | (unfold m_ceF; simp only [*, if_true, if_false, Bool.false_eq_true, reduceIte]; done)
          | (unfold m_ceF; simp only [*, if_true, if_false, Bool.false_eq_true, reduceIte] <;> rfl)
          | (unfold m_ceF; cases hq : m_ix1 M.1.length e <;> simp [*])
  · obtain ⟨k_c, hk_c, ek_c, zc⟩ := rr_lt_t (by omega) c1
    subst ek_c
    obtain ⟨C, hC⟩ := jv_getLt (l := M.2) (k := k_c) (by omega)
    obtain ⟨hC1, hok⟩ := hCs k_c C hC
    have hl20 := hok.2.2.2.2.1
    refine jv_aload_n (q := 10) G 0 dX8_meets_9 rfl rfl rfl ?_
    refine jv_iload_n (q := 11) G 2 dX8_meets_10 rfl rfl rfl ?_
    refine jv_callV_I (q := 14) (h1 := h) (As := [.int e]) (rest := [.ref x]) (ce' := 0) (sl' := 0) (r := jv_bI (rr_lt e M.1.length)) G Z ml_X8_132 (r_isEdition hlt hS hn) hS.1 dX8_meets_11 rfl (by decide) (by decide) (by decide) (by decide) (Nat.le_of_ble_eq_true rfl) rfl rfl rfl rfl ?_
    refine jv_if_neB (q := 17) (tgt := 21) G dX8_meets_14 (by decide) rfl (fun c4 => ?_) (fun c4 => ?_)
    · obtain ⟨k_e, hk_e, ek_e, ze⟩ := rr_lt_t (by omega) c4
      subst ek_e
      refine jv_aload_n (q := 22) G 0 dX8_meets_21 rfl rfl rfl ?_
      refine jv_getQ (q := 25) G dX8_meets_22 fl_X8_7 rfl hS.1 (rf_p2 hS) rfl ?_
      refine jv_iload_n (q := 26) G 2 dX8_meets_25 rfl rfl rfl ?_
      refine jv_zald (q := 27) G dX8_meets_26 (rf_a2 hS) rfl (by omega) (by decide) (hD k_e (by omega)).1 rfl ?_
      refine jv_if_neB (q := 30) (tgt := 34) G dX8_meets_27 (by decide) rfl (fun c5 => ?_) (fun c5 => ?_)
      · have hse := c5
        refine jv_iconst (q := 35) (v := nI 0) G dX8_meets_34 (by decide) rfl ?_
        refine jv_putI (q := 38) G dX8_meets_35 fl_X8_122 rfl hS.1 rfl ?_
        have hr1 : rs x q h (jv_wI h x 0 (nI 0)) := rs.rf.wI (nI 0) (Or.inl ⟨rfl, Or.inl rfl⟩)
        have hth : jv_I (jv_wI h x 0 (nI 0)) x 0 = (nI 0) := jv_I_self _ _ _ _
        have hR := hr1.R hR
        have hrs := hrs.tr hr1
        generalize jv_wI h x 0 (nI 0) = h6 at hth hR hrs ⊢
        obtain ⟨hS, ⟨hn8, hn⟩, ⟨hm12, hm⟩, hD, hV, hCs⟩ := id hR
        have hsc : sc x q h6 h6 := sc.rf
        obtain ⟨hC1, hok⟩ := hCs k_c C hC
        refine jv_aload_n (q := 39) G 0 dX8_meets_38 rfl rfl rfl ?_
        refine jv_getI (q := 42) G dX8_meets_39 fl_X8_122 rfl hS.1 hth rfl ?_
        refine jv_if_leN (q := 45) (tgt := 47) G dX8_meets_42 (by decide) rfl (by omega) (fun c7 => ?_) (fun c7 => ?_)
        · refine jv_iconst (q := 48) (v := nI 0) G dX8_meets_47 (by decide) rfl ?_
          refine jv_istore (q := 50) (lo' := [(4, .int (nI 0)), (0, .ref x), (1, .int (nI k_c)), (2, .int (nI k_e)), (3, .int w)]) G dX8_meets_48 (by decide) rfl rfl ?_
          refine jv_iconst (q := 51) (v := nI 0) G dX8_meets_50 (by decide) rfl ?_
          refine jv_istore (q := 53) (lo' := [(5, .int (nI 0)), (4, .int (nI 0)), (0, .ref x), (1, .int (nI k_c)), (2, .int (nI k_e)), (3, .int w)]) G dX8_meets_51 (by decide) rfl rfl ?_
          refine jv_lo [0, 1, 2, 3, 4, 5] (lo' := [(5, .int (nI 0)), (4, .int (nI 0)), (0, .ref x), (1, .int (nI k_c)), (2, .int (nI k_e)), (3, .int w)]) rfl ?_
          refine r_meets_loop hlt G Z hC hk_e hse (fun h2 hr2 ht2 => ?_) (mc_l C).length 0 _ (by omega) hrs hR hth
          clear hrs hth
          have hrs := hr2; have hth := ht2
          refine jv_iload (q := 94) G 0 dX8_meets_92 rfl rfl ?_
          refine jv_iret G hr dX8_meets_94 (Nat.le_of_ble_eq_true rfl) (Nat.le_of_ble_eq_true rfl) ?_
          refine ⟨_, rfl, fun hz => ?_, ?_, hrs⟩
          · first
              | (unfold m_meets; simp only [*, if_true, if_false, Bool.false_eq_true, reduceIte] <;> rfl)
              | (exfalso; revert hz; unfold m_ceF; simp [*]; done)
              | (exfalso; revert hz; unfold m_ceF; cases hq : m_ix1 M.1.length e <;> simp [*]; done)
              | (unfold m_meets; simp_all; done)
          · rw [hth]; first
              | (unfold m_ceF; simp only [*, if_true, if_false, Bool.false_eq_true, reduceIte]; done)
              | (unfold m_ceF; simp only [*, if_true, if_false, Bool.false_eq_true, reduceIte] <;> rfl)
              | (unfold m_ceF; cases hq : m_ix1 M.1.length e <;> simp [*])
        · omega
      · refine jv_iconst (q := 31) (v := nI 2) G dX8_meets_30 (by decide) rfl ?_
        refine jv_goto (q := 35) G dX8_meets_31 (by decide) ?_
        refine jv_putI (q := 38) G dX8_meets_35 fl_X8_122 rfl hS.1 rfl ?_
        have hr1 : rs x q h (jv_wI h x 0 (nI 2)) := rs.rf.wI (nI 2) (Or.inl ⟨rfl, Or.inl rfl⟩)
        have hth : jv_I (jv_wI h x 0 (nI 2)) x 0 = (nI 2) := jv_I_self _ _ _ _
        have hR := hr1.R hR
        have hrs := hrs.tr hr1
        generalize jv_wI h x 0 (nI 2) = h8 at hth hR hrs ⊢
        obtain ⟨hS, ⟨hn8, hn⟩, ⟨hm12, hm⟩, hD, hV, hCs⟩ := id hR
        have hsc : sc x q h8 h8 := sc.rf
        obtain ⟨hC1, hok⟩ := hCs k_c C hC
        refine jv_aload_n (q := 39) G 0 dX8_meets_38 rfl rfl rfl ?_
        refine jv_getI (q := 42) G dX8_meets_39 fl_X8_122 rfl hS.1 hth rfl ?_
        refine jv_if_leN (q := 45) (tgt := 47) G dX8_meets_42 (by decide) rfl (by omega) (fun c9 => ?_) (fun c9 => ?_)
        · omega
        · refine jv_iconst (q := 46) (v := nI 0) G dX8_meets_45 (by decide) rfl ?_
          refine jv_iret G hr dX8_meets_46 (Nat.le_of_ble_eq_true rfl) (Nat.le_of_ble_eq_true rfl) ?_
          refine ⟨_, rfl, fun hz => ?_, ?_, hrs⟩
          · first
              | (unfold m_meets; simp only [*, if_true, if_false, Bool.false_eq_true, reduceIte] <;> rfl)
              | (exfalso; revert hz; unfold m_ceF; simp [*]; done)
              | (exfalso; revert hz; unfold m_ceF; cases hq : m_ix1 M.1.length e <;> simp [*]; done)
              | (unfold m_meets; simp_all; done)
          · rw [hth]; first
              | (unfold m_ceF; simp only [*, if_true, if_false, Bool.false_eq_true, reduceIte]; done)
              | (unfold m_ceF; simp only [*, if_true, if_false, Bool.false_eq_true, reduceIte] <;> rfl)
              | (unfold m_ceF; cases hq : m_ix1 M.1.length e <;> simp [*])
    · have ze := rr_lt_f c4
      refine jv_iconst (q := 18) (v := nI 1) G dX8_meets_17 (by decide) rfl ?_
      refine jv_goto (q := 35) G dX8_meets_18 (by decide) ?_
      refine jv_putI (q := 38) G dX8_meets_35 fl_X8_122 rfl hS.1 rfl ?_
      have hr1 : rs x q h (jv_wI h x 0 (nI 1)) := rs.rf.wI (nI 1) (Or.inl ⟨rfl, Or.inl rfl⟩)
      have hth : jv_I (jv_wI h x 0 (nI 1)) x 0 = (nI 1) := jv_I_self _ _ _ _
      have hR := hr1.R hR
      have hrs := hrs.tr hr1
      generalize jv_wI h x 0 (nI 1) = h10 at hth hR hrs ⊢
      obtain ⟨hS, ⟨hn8, hn⟩, ⟨hm12, hm⟩, hD, hV, hCs⟩ := id hR
      have hsc : sc x q h10 h10 := sc.rf
      obtain ⟨hC1, hok⟩ := hCs k_c C hC
      refine jv_aload_n (q := 39) G 0 dX8_meets_38 rfl rfl rfl ?_
      refine jv_getI (q := 42) G dX8_meets_39 fl_X8_122 rfl hS.1 hth rfl ?_
      refine jv_if_leN (q := 45) (tgt := 47) G dX8_meets_42 (by decide) rfl (by omega) (fun c11 => ?_) (fun c11 => ?_)
      · omega
      · refine jv_iconst (q := 46) (v := nI 0) G dX8_meets_45 (by decide) rfl ?_
        refine jv_iret G hr dX8_meets_46 (Nat.le_of_ble_eq_true rfl) (Nat.le_of_ble_eq_true rfl) ?_
        refine ⟨_, rfl, fun hz => ?_, ?_, hrs⟩
        · first
            | (unfold m_meets; simp only [*, if_true, if_false, Bool.false_eq_true, reduceIte] <;> rfl)
            | (exfalso; revert hz; unfold m_ceF; simp [*]; done)
            | (exfalso; revert hz; unfold m_ceF; cases hq : m_ix1 M.1.length e <;> simp [*]; done)
            | (unfold m_meets; simp_all; done)
        · rw [hth]; first
            | (unfold m_ceF; simp only [*, if_true, if_false, Bool.false_eq_true, reduceIte]; done)
            | (unfold m_ceF; simp only [*, if_true, if_false, Bool.false_eq_true, reduceIte] <;> rfl)
            | (unfold m_ceF; cases hq : m_ix1 M.1.length e <;> simp [*])
theorem wl_f {M : mA} {C : mC} {i : Nat} : ∀ {n u : Nat}, m_wl M C i u = false → m_wl M C i (u + n) = false
  | 0, u, h => h
  | n + 1, u, h => by rw [show u + (n + 1) = (u + n) + 1 from rfl, m_wl, wl_f h]; rfl
theorem wl_s {M : mA} {C : mC} {i : Nat} : ∀ {u : Nat}, m_wl M C i u = true → ma_s M i = true
  | 0, h => h
  | u + 1, h => by rw [m_wl, Bool.and_eq_true] at h; exact wl_s h.1
set_option maxHeartbeats 4000000 in
set_option maxRecDepth 100000 in
theorem r_best_in {E : jv_E} {x : Nat} {q : Nat → Nat} {h : jv_H} {M : mA} {C : mC} {k_c : Nat} {Q : State → Prop} (hlt : (jv_l E).stackTraces = false) (G : jv_C E cX8_best RX8 7) (Z : jv_rm E = jv_room 17 0 0) (hC : M.2[k_c]? = some C) {e : Nat} {old : Bool} {F : Option Nat} (he : e < M.1.length) (hK : ∀ h2, rs x q h h2 → rf_R x q h2 M → jv_I h2 x 0 = nI 0 → jv_V E 7 h2 0 0 Q 93 [(5, .int (jv_bI (m_wl M C e (mc_l C).length))), (4, .int (nI e)), (3, .int (jv_oN F)), (0, .ref x), (1, .int (nI k_c)), (2, .int (jv_bI old))] []) : ∀ (m u : Nat) (h1 : jv_H), u + m = (mc_l C).length → rs x q h h1 → rf_R x q h1 M → jv_I h1 x 0 = nI 0 → jv_V E 7 h1 0 0 Q 52 [(6, .int (nI u)), (5, .int (jv_bI (m_wl M C e u))), (4, .int (nI e)), (3, .int (jv_oN F)), (0, .ref x), (1, .int (nI k_c)), (2, .int (jv_bI old))] [] := by
  intro m
  induction m with
  | zero =>
    intro u h1 hu hrs hR hth
    obtain ⟨hS, ⟨hn8, hn⟩, ⟨hm12, hm⟩, hD, hV, hCs⟩ := id hR
    obtain ⟨hC1, hok⟩ := hCs k_c C hC
    have hl20 := hok.2.2.2.2.1
    have hkc := jv_ltGet hC
    refine jv_iload (q := 54) G 1 dX8_best_52 rfl rfl ?_
    refine jv_if_eqB (q := 57) (tgt := 93) G dX8_best_54 (by decide) rfl (fun c1 => ?_) (fun c1 => ?_)
    · refine jv_lo [1, 2, 3, 4, 5, 6] (lo' := [(5, .int (jv_bI (m_wl M C e u))), (4, .int (nI e)), (3, .int (jv_oN F)), (0, .ref x), (1, .int (nI k_c)), (2, .int (jv_bI old))]) rfl ?_
      have ew : m_wl M C e u = m_wl M C e (mc_l C).length := by
        rw [c1, ← hu, wl_f c1]
      rw [ew]; exact hK _ hrs hR hth
    · have hse := wl_s c1
      refine jv_iload (q := 59) G 0 dX8_best_57 rfl rfl ?_
      refine jv_aload_n (q := 60) G 4 dX8_best_59 rfl rfl rfl ?_
      refine jv_getQ (q := 63) G dX8_best_60 fl_X8_77 rfl hS.1 (rf_p25 hS) rfl ?_
      refine jv_iload_n (q := 64) G 5 dX8_best_63 rfl rfl rfl ?_
      refine jv_iald (q := 65) G dX8_best_64 (rf_a25 hS) rfl (by omega) (by decide) hC1.2.2.2.1 rfl ?_
      refine jv_icmp_geN (q := 68) (tgt := 93) G dX8_best_65 (by decide) rfl (by omega) (by omega) (fun c2 => ?_) (fun c2 => ?_)
      · refine jv_lo [1, 2, 3, 4, 5, 6] (lo' := [(5, .int (jv_bI (m_wl M C e u))), (4, .int (nI e)), (3, .int (jv_oN F)), (0, .ref x), (1, .int (nI k_c)), (2, .int (jv_bI old))]) rfl ?_
        have ew : m_wl M C e u = m_wl M C e (mc_l C).length := by rw [show u = (mc_l C).length by omega]
        rw [ew]; exact hK _ hrs hR hth
      · omega
  | succ m ih =>
    intro u h1 hu hrs hR hth
    obtain ⟨hS, ⟨hn8, hn⟩, ⟨hm12, hm⟩, hD, hV, hCs⟩ := id hR
    obtain ⟨hC1, hok⟩ := hCs k_c C hC
    have hl20 := hok.2.2.2.2.1
    have hkc := jv_ltGet hC
    obtain ⟨U, hU⟩ := jv_getLt (l := mc_l C) (k := u) (by omega)
    refine jv_iload (q := 54) G 1 dX8_best_52 rfl rfl ?_
    refine jv_if_eqB (q := 57) (tgt := 93) G dX8_best_54 (by decide) rfl (fun c1 => ?_) (fun c1 => ?_)
    · refine jv_lo [1, 2, 3, 4, 5, 6] (lo' := [(5, .int (jv_bI (m_wl M C e u))), (4, .int (nI e)), (3, .int (jv_oN F)), (0, .ref x), (1, .int (nI k_c)), (2, .int (jv_bI old))]) rfl ?_
      have ew : m_wl M C e u = m_wl M C e (mc_l C).length := by
        rw [c1, ← hu, wl_f c1]
      rw [ew]; exact hK _ hrs hR hth
    · have hse := wl_s c1
      refine jv_iload (q := 59) G 0 dX8_best_57 rfl rfl ?_
      refine jv_aload_n (q := 60) G 4 dX8_best_59 rfl rfl rfl ?_
      refine jv_getQ (q := 63) G dX8_best_60 fl_X8_77 rfl hS.1 (rf_p25 hS) rfl ?_
      refine jv_iload_n (q := 64) G 5 dX8_best_63 rfl rfl rfl ?_
      refine jv_iald (q := 65) G dX8_best_64 (rf_a25 hS) rfl (by omega) (by decide) hC1.2.2.2.1 rfl ?_
      refine jv_icmp_geN (q := 68) (tgt := 93) G dX8_best_65 (by decide) rfl (by omega) (by omega) (fun c2 => ?_) (fun c2 => ?_)
      · omega
      · refine jv_aload_n (q := 69) G 4 dX8_best_68 rfl rfl rfl ?_
        refine jv_iload_n (q := 70) G 5 dX8_best_69 rfl rfl rfl ?_
        refine jv_iload (q := 72) G 2 dX8_best_70 rfl rfl ?_
        refine jv_iload (q := 74) G 0 dX8_best_72 rfl rfl ?_
        refine jv_callV (q := 77) (As := [.int (nI k_c), .int (nI e), .int (nI u)]) (rest := []) G Z ml_X8_215 (r_meetsUse hlt hR hC hU (by omega) hse) hS.1 dX8_best_74 rfl (by decide) (by decide) (by decide) (by decide) (Nat.le_of_ble_eq_true rfl) rfl rfl (fun v4 h3 y5 => ?_) (fun _ _ hx => hx.elim)
        obtain ⟨rfl, hr2, hran, hx0⟩ := y5
        show jv_V E 7 h3 0 0 Q 77 [(6, .int (nI u)), (5, .int (jv_bI (m_wl M C e u))), (4, .int (nI e)), (3, .int (jv_oN F)), (0, .ref x), (1, .int (nI k_c)), (2, .int (jv_bI old))] [.int (nI ((m_mu M C e U).1))]
        have hmu := mu_lt M C e U
        have hR := hr2.R hR
        have hth := hx0.trans hth
        have hrs := hrs.tr hr2
        obtain ⟨hS, ⟨hn8, hn⟩, ⟨hm12, hm⟩, hD, hV, hCs⟩ := id hR
        refine jv_if_neN (q := 80) (tgt := 84) G dX8_best_77 (by decide) rfl (by omega) (fun c6 => ?_) (fun c6 => ?_)
        · refine jv_iconst (q := 85) (v := nI 0) G dX8_best_84 (by decide) rfl ?_
          refine jv_istore (q := 87) (lo' := [(5, .int (nI 0)), (6, .int (nI u)), (4, .int (nI e)), (3, .int (jv_oN F)), (0, .ref x), (1, .int (nI k_c)), (2, .int (jv_bI old))]) G dX8_best_85 (by decide) rfl rfl ?_
          refine jv_iinc (q := 90) (lo' := [(6, .int (nI (u + 1))), (5, .int (nI 0)), (4, .int (nI e)), (3, .int (jv_oN F)), (0, .ref x), (1, .int (nI k_c)), (2, .int (jv_bI old))]) (v := nI (u + 1)) G 1 dX8_best_87 rfl (nI_1 u) (by decide) rfl rfl ?_
          refine jv_goto (q := 52) G dX8_best_90 (by decide) ?_
          refine jv_lo [0, 1, 2, 3, 4, 5, 6] (lo' := [(6, .int (nI (u + 1))), (5, .int (nI 0)), (4, .int (nI e)), (3, .int (jv_oN F)), (0, .ref x), (1, .int (nI k_c)), (2, .int (jv_bI old))]) rfl ?_
          have ew : nI 0 = jv_bI (m_wl M C e (u + 1)) := by
            rw [m_wl, c1, hU]; simp [c6]; first | rfl | (rw [show ((m_mu M C e U).1 == 0) = false from by simp [c6]]; rfl)
          rw [ew]; exact ih (u + 1) _ (by omega) hrs hR hth
        · refine jv_iconst (q := 81) (v := nI 1) G dX8_best_80 (by decide) rfl ?_
          refine jv_goto (q := 85) G dX8_best_81 (by decide) ?_
          refine jv_istore (q := 87) (lo' := [(5, .int (nI 1)), (6, .int (nI u)), (4, .int (nI e)), (3, .int (jv_oN F)), (0, .ref x), (1, .int (nI k_c)), (2, .int (jv_bI old))]) G dX8_best_85 (by decide) rfl rfl ?_
          refine jv_iinc (q := 90) (lo' := [(6, .int (nI (u + 1))), (5, .int (nI 1)), (4, .int (nI e)), (3, .int (jv_oN F)), (0, .ref x), (1, .int (nI k_c)), (2, .int (jv_bI old))]) (v := nI (u + 1)) G 1 dX8_best_87 rfl (nI_1 u) (by decide) rfl rfl ?_
          refine jv_goto (q := 52) G dX8_best_90 (by decide) ?_
          refine jv_lo [0, 1, 2, 3, 4, 5, 6] (lo' := [(6, .int (nI (u + 1))), (5, .int (nI 1)), (4, .int (nI e)), (3, .int (jv_oN F)), (0, .ref x), (1, .int (nI k_c)), (2, .int (jv_bI old))]) rfl ?_
          have ew : nI 1 = jv_bI (m_wl M C e (u + 1)) := by
            rw [m_wl, c1, hU]; simp [c6]; first | rfl | (rw [show ((m_mu M C e U).1 == 0) = false from by simp [c6]]; rfl)
          rw [ew]; exact ih (u + 1) _ (by omega) hrs hR hth
set_option maxHeartbeats 4000000 in
set_option maxRecDepth 100000 in
theorem r_best_out {E : jv_E} {x : Nat} {q : Nat → Nat} {h : jv_H} {M : mA} {C : mC} {k_c : Nat} {Q : State → Prop} (hlt : (jv_l E).stackTraces = false) (G : jv_C E cX8_best RX8 7) (Z : jv_rm E = jv_room 17 0 0) (hC : M.2[k_c]? = some C) {old : Bool} (hK : ∀ h2, rs x q h h2 → rf_R x q h2 M → jv_I h2 x 0 = nI 0 → jv_V E 7 h2 0 0 Q 116 [(3, .int (jv_oN (m_bst (fun e => m_wl M C e (mc_l C).length) old M.1.length)))] []) : ∀ (m e : Nat) (h1 : jv_H), e + m = M.1.length → rs x q h h1 → rf_R x q h1 M → jv_I h1 x 0 = nI 0 → jv_V E 7 h1 0 0 Q 31 [(4, .int (nI e)), (3, .int (jv_oN (m_bst (fun e => m_wl M C e (mc_l C).length) old e))), (0, .ref x), (1, .int (nI k_c)), (2, .int (jv_bI old))] [] := by
  intro m
  induction m with
  | zero =>
    intro e h1 he hrs hR hth
    obtain ⟨hS, ⟨hn8, hn⟩, ⟨hm12, hm⟩, hD, hV, hCs⟩ := id hR
    refine jv_iload (q := 33) G 0 dX8_best_31 rfl rfl ?_
    refine jv_aload_n (q := 34) G 2 dX8_best_33 rfl rfl rfl ?_
    refine jv_getI (q := 37) G dX8_best_34 fl_X8_126 rfl hS.1 hn rfl ?_
    refine jv_icmp_geN (q := 40) (tgt := 116) G dX8_best_37 (by decide) rfl (by omega) (by omega) (fun c1 => ?_) (fun c1 => ?_)
    · refine jv_lo [1] (lo' := [(3, .int (jv_oN (m_bst (fun e => m_wl M C e (mc_l C).length) old e)))]) rfl ?_
      rw [show e = M.1.length by omega]; exact hK _ hrs hR hth
    · omega
  | succ m ih =>
    intro e h1 he hrs hR hth
    obtain ⟨hS, ⟨hn8, hn⟩, ⟨hm12, hm⟩, hD, hV, hCs⟩ := id hR
    refine jv_iload (q := 33) G 0 dX8_best_31 rfl rfl ?_
    refine jv_aload_n (q := 34) G 2 dX8_best_33 rfl rfl rfl ?_
    refine jv_getI (q := 37) G dX8_best_34 fl_X8_126 rfl hS.1 hn rfl ?_
    refine jv_icmp_geN (q := 40) (tgt := 116) G dX8_best_37 (by decide) rfl (by omega) (by omega) (fun c1 => ?_) (fun c1 => ?_)
    · omega
    · refine jv_aload_n (q := 41) G 2 dX8_best_40 rfl rfl rfl ?_
      refine jv_getQ (q := 44) G dX8_best_41 fl_X8_7 rfl hS.1 (rf_p2 hS) rfl ?_
      refine jv_iload (q := 46) G 0 dX8_best_44 rfl rfl ?_
      refine jv_zald (q := 47) G dX8_best_46 (rf_a2 hS) rfl (by omega) (by decide) (hD e (by omega)).1 rfl ?_
      refine jv_istore (q := 49) (lo' := [(5, .int (jv_bI (ma_s M e))), (4, .int (nI e)), (3, .int (jv_oN (m_bst (fun e => m_wl M C e (mc_l C).length) old e))), (0, .ref x), (1, .int (nI k_c)), (2, .int (jv_bI old))]) G dX8_best_47 (by decide) rfl rfl ?_
      refine jv_iconst (q := 50) (v := nI 0) G dX8_best_49 (by decide) rfl ?_
      refine jv_istore (q := 52) (lo' := [(6, .int (nI 0)), (5, .int (jv_bI (ma_s M e))), (4, .int (nI e)), (3, .int (jv_oN (m_bst (fun e => m_wl M C e (mc_l C).length) old e))), (0, .ref x), (1, .int (nI k_c)), (2, .int (jv_bI old))]) G dX8_best_50 (by decide) rfl rfl ?_
      refine jv_lo [0, 1, 2, 3, 4, 5, 6] (lo' := [(6, .int (nI 0)), (5, .int (jv_bI (ma_s M e))), (4, .int (nI e)), (3, .int (jv_oN (m_bst (fun e => m_wl M C e (mc_l C).length) old e))), (0, .ref x), (1, .int (nI k_c)), (2, .int (jv_bI old))]) rfl ?_
      refine r_best_in (F := m_bst (fun e => m_wl M C e (mc_l C).length) old e) hlt G Z hC (by omega) (fun h2 hrs2 hR2 hth2 => ?_) (mc_l C).length 0 _ (by omega) hrs hR hth
      clear hrs hth hR hS hn8 hn hm12 hm hD hV hCs
      rename rs x q h h2 => hrs; rename rf_R x q h2 M => hR; rename jv_I h2 x 0 = nI 0 => hth
      obtain ⟨hS, ⟨hn8, hn⟩, ⟨hm12, hm⟩, hD, hV, hCs⟩ := id hR
      refine jv_iload (q := 95) G 0 dX8_best_93 rfl rfl ?_
      refine jv_if_eqB (q := 98) (tgt := 110) G dX8_best_95 (by decide) rfl (fun c2 => ?_) (fun c2 => ?_)
      · refine jv_iinc (q := 113) (lo' := [(4, .int (nI (e + 1))), (5, .int (jv_bI (m_wl M C e (mc_l C).length))), (3, .int (jv_oN (m_bst (fun e => m_wl M C e (mc_l C).length) old e))), (0, .ref x), (1, .int (nI k_c)), (2, .int (jv_bI old))]) (v := nI (e + 1)) G 1 dX8_best_110 rfl (nI_1 e) (by decide) rfl rfl ?_
        refine jv_goto (q := 31) G dX8_best_113 (by decide) ?_
        refine jv_lo [0, 2, 3, 4, 5] (lo' := [(4, .int (nI (e + 1))), (3, .int (jv_oN (m_bst (fun e => m_wl M C e (mc_l C).length) old e))), (0, .ref x), (1, .int (nI k_c)), (2, .int (jv_bI old))]) rfl ?_
        have ew : jv_oN (m_bst (fun e => m_wl M C e (mc_l C).length) old e) = jv_oN (m_bst (fun e => m_wl M C e (mc_l C).length) old (e + 1)) := by
          rw [m_bst]; simp only [c2, Bool.true_and, Bool.false_and, Bool.true_or, Bool.or_true, Bool.false_or, Bool.not_true, Bool.not_false, if_true, Bool.false_eq_true, if_false, jv_oN]
        rw [ew]; exact ih (e + 1) _ (by omega) hrs hR hth
      · refine jv_iload_n (q := 99) G 2 dX8_best_98 rfl rfl rfl ?_
        refine jv_iconst (q := 100) (v := (-1)) G dX8_best_99 (by decide) rfl ?_
        refine jv_icmp_eq (q := 103) (tgt := 107) G dX8_best_100 (by decide) rfl (fun c3 => ?_) (fun c3 => ?_)
        · refine jv_iload (q := 109) G 1 dX8_best_107 rfl rfl ?_
          refine jv_istore_n (q := 110) (lo' := [(3, .int (nI e)), (5, .int (jv_bI (m_wl M C e (mc_l C).length))), (4, .int (nI e)), (0, .ref x), (1, .int (nI k_c)), (2, .int (jv_bI old))]) G dX8_best_109 rfl (by decide) rfl rfl ?_
          refine jv_iinc (q := 113) (lo' := [(4, .int (nI (e + 1))), (3, .int (nI e)), (5, .int (jv_bI (m_wl M C e (mc_l C).length))), (0, .ref x), (1, .int (nI k_c)), (2, .int (jv_bI old))]) (v := nI (e + 1)) G 2 dX8_best_110 rfl (nI_1 e) (by decide) rfl rfl ?_
          refine jv_goto (q := 31) G dX8_best_113 (by decide) ?_
          refine jv_lo [0, 1, 3, 4, 5] (lo' := [(4, .int (nI (e + 1))), (3, .int (nI e)), (0, .ref x), (1, .int (nI k_c)), (2, .int (jv_bI old))]) rfl ?_
          have hf : (m_bst (fun e => m_wl M C e (mc_l C).length) old e).isNone = true := by
            cases hb : m_bst (fun e => m_wl M C e (mc_l C).length) old e with
            | none => rfl
            | some k => rw [hb] at c3; exact absurd c3 (jv_nI_m1 (by have := bst_lt hb; omega))
          have ew : nI e = jv_oN (m_bst (fun e => m_wl M C e (mc_l C).length) old (e + 1)) := by
            rw [m_bst]; simp only [c2, hf, Bool.true_and, Bool.false_and, Bool.true_or, Bool.or_true, Bool.false_or, Bool.not_true, Bool.not_false, if_true, Bool.false_eq_true, if_false, jv_oN]
          rw [ew]; exact ih (e + 1) _ (by omega) hrs hR hth
        · refine jv_iload_n (q := 104) G 5 dX8_best_103 rfl rfl rfl ?_
          refine jv_if_neB (q := 107) (tgt := 110) G dX8_best_104 (by decide) rfl (fun c4 => ?_) (fun c4 => ?_)
          · refine jv_iinc (q := 113) (lo' := [(4, .int (nI (e + 1))), (5, .int (jv_bI (m_wl M C e (mc_l C).length))), (3, .int (jv_oN (m_bst (fun e => m_wl M C e (mc_l C).length) old e))), (0, .ref x), (1, .int (nI k_c)), (2, .int (jv_bI old))]) (v := nI (e + 1)) G 1 dX8_best_110 rfl (nI_1 e) (by decide) rfl rfl ?_
            refine jv_goto (q := 31) G dX8_best_113 (by decide) ?_
            refine jv_lo [0, 2, 3, 4, 5] (lo' := [(4, .int (nI (e + 1))), (3, .int (jv_oN (m_bst (fun e => m_wl M C e (mc_l C).length) old e))), (0, .ref x), (1, .int (nI k_c)), (2, .int (jv_bI old))]) rfl ?_
            have hf : (m_bst (fun e => m_wl M C e (mc_l C).length) old e).isNone = false := by
              cases hb : m_bst (fun e => m_wl M C e (mc_l C).length) old e with
              | none => rw [hb] at c3; exact absurd rfl c3
              | some k => rfl
            rw [c4] at hf
            have ew : jv_oN (m_bst (fun e => m_wl M C e (mc_l C).length) old e) = jv_oN (m_bst (fun e => m_wl M C e (mc_l C).length) old (e + 1)) := by
              rw [m_bst]; simp only [c2, hf, c4, Bool.true_and, Bool.false_and, Bool.true_or, Bool.or_true, Bool.false_or, Bool.not_true, Bool.not_false, if_true, Bool.false_eq_true, if_false, jv_oN]
            rw [ew]; exact ih (e + 1) _ (by omega) hrs hR hth
          · refine jv_iload (q := 109) G 1 dX8_best_107 rfl rfl ?_
            refine jv_istore_n (q := 110) (lo' := [(3, .int (nI e)), (5, .int (jv_bI (m_wl M C e (mc_l C).length))), (4, .int (nI e)), (0, .ref x), (1, .int (nI k_c)), (2, .int (jv_bI old))]) G dX8_best_109 rfl (by decide) rfl rfl ?_
            refine jv_iinc (q := 113) (lo' := [(4, .int (nI (e + 1))), (3, .int (nI e)), (5, .int (jv_bI (m_wl M C e (mc_l C).length))), (0, .ref x), (1, .int (nI k_c)), (2, .int (jv_bI old))]) (v := nI (e + 1)) G 2 dX8_best_110 rfl (nI_1 e) (by decide) rfl rfl ?_
            refine jv_goto (q := 31) G dX8_best_113 (by decide) ?_
            refine jv_lo [0, 1, 3, 4, 5] (lo' := [(4, .int (nI (e + 1))), (3, .int (nI e)), (0, .ref x), (1, .int (nI k_c)), (2, .int (jv_bI old))]) rfl ?_
            have hf : (m_bst (fun e => m_wl M C e (mc_l C).length) old e).isNone = false := by
              cases hb : m_bst (fun e => m_wl M C e (mc_l C).length) old e with
              | none => rw [hb] at c3; exact absurd rfl c3
              | some k => rfl
            rw [c4] at hf
            have ew : nI e = jv_oN (m_bst (fun e => m_wl M C e (mc_l C).length) old (e + 1)) := by
              rw [m_bst]; simp only [c2, hf, c4, Bool.true_and, Bool.false_and, Bool.true_or, Bool.or_true, Bool.false_or, Bool.not_true, Bool.not_false, if_true, Bool.false_eq_true, if_false, jv_oN]
            rw [ew]; exact ih (e + 1) _ (by omega) hrs hR hth
set_option maxHeartbeats 4000000 in
set_option maxRecDepth 100000 in
theorem r_best {lA : Launch} (hlt : lA.stackTraces = false) {D : jv_D} {base : Nat} {x : Nat} {q : Nat → Nat} {h : jv_H} {M : mA} {c : Int32} {old : Bool} (hR : rf_R x q h M) : jv_Met lA D base yX8_best (.code yX8_best cX8_best 7 (some .int)) 17 0 0 [.ref x, .int c, .int (jv_bI old)] h (fun v h' => ∃ r, v = some (.int r) ∧ ((m_cF M c) = 0 → r = m_best M c old) ∧ jv_I h' x 0 = nI (m_cF M c) ∧ rs x q h h') jv_no := by
  refine jv_ofV (lo := [(0, .ref x), (1, .int c), (2, .int (jv_bI old))]) hlt (by decide) (Nat.le_of_ble_eq_true rfl) rfl (fun E hEl hEd hEz Z G hr ht hnm => ?_)
  subst hEl; subst hEd; subst hEz
  obtain ⟨hS, ⟨hn8, hn⟩, ⟨hm12, hm⟩, hD, hV, hCs⟩ := id hR
  have hrs : rs x q h h := rs.rf
  refine jv_aload_n (q := 1) G 0 dX8_best_0 rfl rfl rfl ?_
  refine jv_aload_n (q := 2) G 0 dX8_best_1 rfl rfl rfl ?_
  refine jv_iload_n (q := 3) G 1 dX8_best_2 rfl rfl rfl ?_
  refine jv_callV_I (q := 6) (h1 := h) (As := [.int c]) (rest := [.ref x]) (ce' := 0) (sl' := 0) (r := jv_bI (rr_lt c M.2.length)) G Z ml_X8_205 (r_isCaller hlt hS hm) hS.1 dX8_best_3 rfl (by decide) (by decide) (by decide) (by decide) (Nat.le_of_ble_eq_true rfl) rfl rfl rfl rfl ?_
  refine jv_if_neB (q := 9) (tgt := 13) G dX8_best_6 (by decide) rfl (fun c1 => ?_) (fun c1 => ?_)
  · obtain ⟨k_c, hk_c, ek_c, zc⟩ := rr_lt_t (by omega) c1
    subst ek_c
    obtain ⟨C, hC⟩ := jv_getLt (l := M.2) (k := k_c) (by omega)
    obtain ⟨hC1, hok⟩ := hCs k_c C hC
    have hl20 := hok.2.2.2.2.1
    refine jv_iconst (q := 14) (v := nI 0) G dX8_best_13 (by decide) rfl ?_
    refine jv_putI (q := 17) G dX8_best_14 fl_X8_122 rfl hS.1 rfl ?_
    have hr1 : rs x q h (jv_wI h x 0 (nI 0)) := rs.rf.wI (nI 0) (Or.inl ⟨rfl, Or.inl rfl⟩)
    have hth : jv_I (jv_wI h x 0 (nI 0)) x 0 = (nI 0) := jv_I_self _ _ _ _
    have hR := hr1.R hR
    have hrs := hrs.tr hr1
    generalize jv_wI h x 0 (nI 0) = h2 at hth hR hrs ⊢
    obtain ⟨hS, ⟨hn8, hn⟩, ⟨hm12, hm⟩, hD, hV, hCs⟩ := id hR
    have hsc : sc x q h2 h2 := sc.rf
    obtain ⟨hC1, hok⟩ := hCs k_c C hC
    refine jv_aload_n (q := 18) G 0 dX8_best_17 rfl rfl rfl ?_
    refine jv_getI (q := 21) G dX8_best_18 fl_X8_122 rfl hS.1 hth rfl ?_
    refine jv_if_leN (q := 24) (tgt := 26) G dX8_best_21 (by decide) rfl (by omega) (fun c3 => ?_) (fun c3 => ?_)
    · refine jv_iconst (q := 27) (v := (-1)) G dX8_best_26 (by decide) rfl ?_
      refine jv_istore_n (q := 28) (lo' := [(3, .int (-1)), (0, .ref x), (1, .int (nI k_c)), (2, .int (jv_bI old))]) G dX8_best_27 rfl (by decide) rfl rfl ?_
      refine jv_iconst (q := 29) (v := nI 0) G dX8_best_28 (by decide) rfl ?_
      refine jv_istore (q := 31) (lo' := [(4, .int (nI 0)), (3, .int (-1)), (0, .ref x), (1, .int (nI k_c)), (2, .int (jv_bI old))]) G dX8_best_29 (by decide) rfl rfl ?_
      refine jv_lo [0, 1, 2, 3, 4] (lo' := [(4, .int (nI 0)), (3, .int (-1)), (0, .ref x), (1, .int (nI k_c)), (2, .int (jv_bI old))]) rfl ?_
      refine r_best_out hlt G Z hC (fun h2 hrs2 hR2 hth2 => ?_) M.1.length 0 _ (by omega) hrs hR hth
      clear hrs hth hR
      rename rs x q h h2 => hrs; rename rf_R x q h2 M => hR; rename jv_I h2 x 0 = nI 0 => hth
      refine jv_iload_n (q := 117) G 0 dX8_best_116 rfl rfl rfl ?_
      refine jv_iret G hr dX8_best_117 (Nat.le_of_ble_eq_true rfl) (Nat.le_of_ble_eq_true rfl) ?_
      refine ⟨_, rfl, fun hz => ?_, ?_, hrs⟩
      · first
          | (unfold m_best; simp only [*, if_true, if_false, Bool.false_eq_true, reduceIte] <;> rfl)
          | (exfalso; revert hz; unfold m_cF; simp [*]; done)
          | (exfalso; revert hz; unfold m_cF; cases hq : m_ix1 M.1.length e <;> simp [*]; done)
          | (unfold m_best; simp_all; done)
      · rw [hth]; first
          | (unfold m_cF; simp only [*, if_true, if_false, Bool.false_eq_true, reduceIte]; done)
          | (unfold m_cF; simp only [*, if_true, if_false, Bool.false_eq_true, reduceIte] <;> rfl)
          | (unfold m_cF; cases hq : m_ix1 M.1.length e <;> simp [*])
    · omega
  · have zc := rr_lt_f c1
    refine jv_iconst (q := 10) (v := nI 1) G dX8_best_9 (by decide) rfl ?_
    refine jv_goto (q := 14) G dX8_best_10 (by decide) ?_
    refine jv_putI (q := 17) G dX8_best_14 fl_X8_122 rfl hS.1 rfl ?_
    have hr1 : rs x q h (jv_wI h x 0 (nI 1)) := rs.rf.wI (nI 1) (Or.inl ⟨rfl, Or.inl rfl⟩)
    have hth : jv_I (jv_wI h x 0 (nI 1)) x 0 = (nI 1) := jv_I_self _ _ _ _
    have hR := hr1.R hR
    have hrs := hrs.tr hr1
    generalize jv_wI h x 0 (nI 1) = h4 at hth hR hrs ⊢
    obtain ⟨hS, ⟨hn8, hn⟩, ⟨hm12, hm⟩, hD, hV, hCs⟩ := id hR
    have hsc : sc x q h4 h4 := sc.rf
    refine jv_aload_n (q := 18) G 0 dX8_best_17 rfl rfl rfl ?_
    refine jv_getI (q := 21) G dX8_best_18 fl_X8_122 rfl hS.1 hth rfl ?_
    refine jv_if_leN (q := 24) (tgt := 26) G dX8_best_21 (by decide) rfl (by omega) (fun c5 => ?_) (fun c5 => ?_)
    · omega
    · refine jv_iconst (q := 25) (v := nI 0) G dX8_best_24 (by decide) rfl ?_
      refine jv_iret G hr dX8_best_25 (Nat.le_of_ble_eq_true rfl) (Nat.le_of_ble_eq_true rfl) ?_
      refine ⟨_, rfl, fun hz => ?_, ?_, hrs⟩
      · first
          | (unfold m_best; simp only [*, if_true, if_false, Bool.false_eq_true, reduceIte] <;> rfl)
          | (exfalso; revert hz; unfold m_cF; simp [*]; done)
          | (exfalso; revert hz; unfold m_cF; cases hq : m_ix1 M.1.length e <;> simp [*]; done)
          | (unfold m_best; simp_all; done)
      · rw [hth]; first
          | (unfold m_cF; simp only [*, if_true, if_false, Bool.false_eq_true, reduceIte]; done)
          | (unfold m_cF; simp only [*, if_true, if_false, Bool.false_eq_true, reduceIte] <;> rfl)
          | (unfold m_cF; cases hq : m_ix1 M.1.length e <;> simp [*])
set_option maxHeartbeats 4000000 in
set_option maxRecDepth 100000 in
theorem r_look_loop {E : jv_E} {x : Nat} {q : Nat → Nat} {h : jv_H} {M : mA} {k_e : Nat} {w : Int32} {Q : State → Prop} (G : jv_C E cX8_look RX8 5) (hS : rf_S x q h) (hk : k_e < 8) (hE : rf_E q h k_e (ma_t M k_e)) (hK : jv_V E 5 h 0 0 Q 66 [(3, .int (nI (m_sm (m_ml (ma_t M k_e)) (ma_t M k_e).length))), (0, .ref x), (1, .int (nI k_e)), (2, .int w)] []) : ∀ (m k : Nat), k + m = (ma_t M k_e).length → jv_V E 5 h 0 0 Q 34 [(4, .int (nI (10 * k_e + k))), (3, .int (nI (m_sm (m_ml (ma_t M k_e)) k))), (0, .ref x), (1, .int (nI k_e)), (2, .int w)] [] := by
  have hl10 := hE.2.1
  intro m
  induction m with
  | zero =>
    intro k hm
    refine jv_iload (q := 36) G 0 dX8_look_34 rfl rfl ?_
    refine jv_bipush (q := 38) (v := nI 10) G dX8_look_36 (by decide) rfl ?_
    refine jv_iload_n (q := 39) G 3 dX8_look_38 rfl rfl rfl ?_
    refine jv_imulN (q := 40) G dX8_look_39 rfl ?_
    refine jv_aload_n (q := 41) G 2 dX8_look_40 rfl rfl rfl ?_
    refine jv_getQ (q := 44) G dX8_look_41 fl_X8_13 rfl hS.1 (rf_p3 hS) rfl ?_
    refine jv_iload_n (q := 45) G 3 dX8_look_44 rfl rfl rfl ?_
    refine jv_iald (q := 46) G dX8_look_45 (rf_a3 hS) rfl (by omega) (by decide) hE.1 rfl ?_
    refine jv_iaddN (q := 47) G dX8_look_46 rfl ?_
    refine jv_icmp_geN (q := 50) (tgt := 66) G dX8_look_47 (by decide) rfl (by omega) (by omega) (fun c1 => ?_) (fun c1 => ?_)
    · refine jv_lo [1, 2, 3, 4] (lo' := [(3, .int (nI (m_sm (m_ml (ma_t M k_e)) k))), (0, .ref x), (1, .int (nI k_e)), (2, .int w)]) rfl ?_
      have ek : k = (ma_t M k_e).length := by omega
      rw [ek]; exact hK
    · omega
  | succ m ih =>
    intro k hm
    obtain ⟨t, ht⟩ := jv_getLt (l := (ma_t M k_e)) (k := k) (by omega)
    have hT := (hE.2.2 k t ht).1
    have h6 := (hE.2.2 k t ht).2.2.2.2.2.2.1
    refine jv_iload (q := 36) G 0 dX8_look_34 rfl rfl ?_
    refine jv_bipush (q := 38) (v := nI 10) G dX8_look_36 (by decide) rfl ?_
    refine jv_iload_n (q := 39) G 3 dX8_look_38 rfl rfl rfl ?_
    refine jv_imulN (q := 40) G dX8_look_39 rfl ?_
    refine jv_aload_n (q := 41) G 2 dX8_look_40 rfl rfl rfl ?_
    refine jv_getQ (q := 44) G dX8_look_41 fl_X8_13 rfl hS.1 (rf_p3 hS) rfl ?_
    refine jv_iload_n (q := 45) G 3 dX8_look_44 rfl rfl rfl ?_
    refine jv_iald (q := 46) G dX8_look_45 (rf_a3 hS) rfl (by omega) (by decide) hE.1 rfl ?_
    refine jv_iaddN (q := 47) G dX8_look_46 rfl ?_
    refine jv_icmp_geN (q := 50) (tgt := 66) G dX8_look_47 (by decide) rfl (by omega) (by omega) (fun c1 => ?_) (fun c1 => ?_)
    · omega
    · refine jv_iload_n (q := 51) G 1 dX8_look_50 rfl rfl rfl ?_
      refine jv_aload_n (q := 52) G 2 dX8_look_51 rfl rfl rfl ?_
      refine jv_getQ (q := 55) G dX8_look_52 fl_X8_41 rfl hS.1 (rf_p12 hS) rfl ?_
      refine jv_iload (q := 57) G 0 dX8_look_55 rfl rfl ?_
      refine jv_iald (q := 58) G dX8_look_57 (rf_a12 hS) rfl (by omega) (by decide) (rt_12 hT) rfl ?_
      refine jv_iaddN (q := 59) G dX8_look_58 rfl ?_
      refine jv_istore_n (q := 60) (lo' := [(3, .int (nI ((m_sm (m_ml (ma_t M k_e)) k) + ((mt_m t).length)))), (4, .int (nI (10 * k_e + k))), (0, .ref x), (1, .int (nI k_e)), (2, .int w)]) G dX8_look_59 rfl (by decide) rfl rfl ?_
      refine jv_iinc (q := 63) (lo' := [(4, .int (nI (10 * k_e + k + 1))), (3, .int (nI ((m_sm (m_ml (ma_t M k_e)) k) + ((mt_m t).length)))), (0, .ref x), (1, .int (nI k_e)), (2, .int w)]) (v := nI (10 * k_e + k + 1)) G 1 dX8_look_60 rfl (nI_1 (10 * k_e + k)) (by decide) rfl rfl ?_
      refine jv_goto (q := 34) G dX8_look_63 (by decide) ?_
      refine jv_lo [0, 1, 2, 3, 4] (lo' := [(4, .int (nI (10 * k_e + k + 1))), (3, .int (nI ((m_sm (m_ml (ma_t M k_e)) k) + ((mt_m t).length)))), (0, .ref x), (1, .int (nI k_e)), (2, .int w)]) rfl ?_
      have ea : m_sm (m_ml (ma_t M k_e)) k + (mt_m t).length = m_sm (m_ml (ma_t M k_e)) (k + 1) := by
        rw [m_sm, show m_ml (ma_t M k_e) k = (mt_m t).length from by unfold m_ml; rw [ht]; rfl]
      rw [ea]; exact ih (k + 1) (by omega)
set_option maxHeartbeats 4000000 in
set_option maxRecDepth 100000 in
theorem r_look {lA : Launch} (hlt : lA.stackTraces = false) {D : jv_D} {base : Nat} {x : Nat} {q : Nat → Nat} {h : jv_H} {M : mA} {e w : Int32} (hR : rf_R x q h M) : jv_Met lA D base yX8_look (.code yX8_look cX8_look 5 (some .int)) 2 0 0 [.ref x, .int e, .int w] h (fun v h' => ∃ r, v = some (.int r) ∧ ((m_eF M e) = 0 → r = m_look M e w) ∧ jv_I h' x 0 = nI (m_eF M e) ∧ rs x q h h') jv_no := by
  refine jv_ofV (lo := [(0, .ref x), (1, .int e), (2, .int w)]) hlt (by decide) (Nat.le_of_ble_eq_true rfl) rfl (fun E hEl hEd hEz Z G hr ht hnm => ?_)
  subst hEl; subst hEd; subst hEz
  obtain ⟨hS, ⟨hn8, hn⟩, ⟨hm12, hm⟩, hD, hV, hCs⟩ := id hR
  have hrs : rs x q h h := rs.rf
  refine jv_aload_n (q := 1) G 0 dX8_look_0 rfl rfl rfl ?_
  refine jv_aload_n (q := 2) G 0 dX8_look_1 rfl rfl rfl ?_
  refine jv_iload_n (q := 3) G 1 dX8_look_2 rfl rfl rfl ?_
  refine jv_callV_I (q := 6) (h1 := h) (As := [.int e]) (rest := [.ref x]) (ce' := 0) (sl' := 0) (r := jv_bI (rr_lt e M.1.length)) G Z ml_X8_132 (r_isEdition hlt hS hn) hS.1 dX8_look_3 rfl (by decide) (by decide) (by decide) (by decide) (Nat.le_of_ble_eq_true rfl) rfl rfl rfl rfl ?_
  refine jv_if_neB (q := 9) (tgt := 13) G dX8_look_6 (by decide) rfl (fun c1 => ?_) (fun c1 => ?_)
  · obtain ⟨k_e, hk_e, ek_e, ze⟩ := rr_lt_t (by omega) c1
    subst ek_e
    refine jv_iconst (q := 14) (v := nI 0) G dX8_look_13 (by decide) rfl ?_
    refine jv_putI (q := 17) G dX8_look_14 fl_X8_122 rfl hS.1 rfl ?_
    have hr1 : rs x q h (jv_wI h x 0 (nI 0)) := rs.rf.wI (nI 0) (Or.inl ⟨rfl, Or.inl rfl⟩)
    have hth : jv_I (jv_wI h x 0 (nI 0)) x 0 = (nI 0) := jv_I_self _ _ _ _
    have hR := hr1.R hR
    have hrs := hrs.tr hr1
    generalize jv_wI h x 0 (nI 0) = h2 at hth hR hrs ⊢
    obtain ⟨hS, ⟨hn8, hn⟩, ⟨hm12, hm⟩, hD, hV, hCs⟩ := id hR
    have hsc : sc x q h2 h2 := sc.rf
    refine jv_aload_n (q := 18) G 0 dX8_look_17 rfl rfl rfl ?_
    refine jv_getI (q := 21) G dX8_look_18 fl_X8_122 rfl hS.1 hth rfl ?_
    refine jv_if_leN (q := 24) (tgt := 26) G dX8_look_21 (by decide) rfl (by omega) (fun c3 => ?_) (fun c3 => ?_)
    · refine jv_iconst (q := 27) (v := nI 0) G dX8_look_26 (by decide) rfl ?_
      refine jv_istore_n (q := 28) (lo' := [(3, .int (nI 0)), (0, .ref x), (1, .int (nI k_e)), (2, .int w)]) G dX8_look_27 rfl (by decide) rfl rfl ?_
      refine jv_bipush (q := 30) (v := nI 10) G dX8_look_28 (by decide) rfl ?_
      refine jv_iload_n (q := 31) G 2 dX8_look_30 rfl rfl rfl ?_
      refine jv_imulN (q := 32) G dX8_look_31 rfl ?_
      refine jv_istore (q := 34) (lo' := [(4, .int (nI (10 * k_e))), (3, .int (nI 0)), (0, .ref x), (1, .int (nI k_e)), (2, .int w)]) G dX8_look_32 (by decide) rfl rfl ?_
      show jv_V E 5 h2 0 0 (jv_Q E (fun v h' => ∃ r, v = some (.int r) ∧ ((m_eF M (nI k_e)) = 0 → r = m_look M (nI k_e) w) ∧ jv_I h' x 0 = nI (m_eF M (nI k_e)) ∧ rs x q h h') jv_no 0 0) 34 [(4, .int (nI (10 * k_e + 0))), (3, .int (nI 0)), (0, .ref x), (1, .int (nI k_e)), (2, .int w)] []
      refine jv_lo [0, 1, 2, 3, 4] (lo' := [(4, .int (nI (10 * k_e + 0))), (3, .int (nI 0)), (0, .ref x), (1, .int (nI k_e)), (2, .int w)]) rfl ?_
      have hE := (hD k_e (by omega)).2
      have hl10 := hE.2.1
      refine r_look_loop G hS (by omega) hE ?_ (ma_t M k_e).length 0 (by omega)
      refine jv_iload_n (q := 67) G 3 dX8_look_66 rfl rfl rfl ?_
      refine jv_if_ne (q := 70) (tgt := 87) G dX8_look_67 (by decide) rfl (fun c4 => ?_) (fun c4 => ?_)
      · refine jv_iload_n (q := 88) G 3 dX8_look_87 rfl rfl rfl ?_
        refine jv_iconst (q := 89) (v := nI 1) G dX8_look_88 (by decide) rfl ?_
        refine jv_icmp_ne (q := 92) (tgt := 101) G dX8_look_89 (by decide) rfl (fun c5 => ?_) (fun c5 => ?_)
        · refine jv_iload_n (q := 102) G 3 dX8_look_101 rfl rfl rfl ?_
          refine jv_iconst (q := 103) (v := nI 2) G dX8_look_102 (by decide) rfl ?_
          refine jv_icmp_ne (q := 106) (tgt := 110) G dX8_look_103 (by decide) rfl (fun c6 => ?_) (fun c6 => ?_)
          · refine jv_iconst (q := 111) (v := (-1)) G dX8_look_110 (by decide) rfl ?_
            refine jv_iret G hr dX8_look_111 (Nat.le_of_ble_eq_true rfl) (Nat.le_of_ble_eq_true rfl) ?_
            refine ⟨_, rfl, fun hz => ?_, ?_, hrs⟩
            · first
                | (unfold m_look; simp only [*, if_true, if_false, Bool.false_eq_true, reduceIte] <;> rfl)
                | (exfalso; revert hz; unfold m_eF; simp [*]; done)
                | (exfalso; revert hz; unfold m_eF; cases hq : m_ix1 M.1.length e <;> simp [*]; done)
                | (unfold m_look; simp_all; done)
            · rw [hth]; first
                | (unfold m_eF; simp only [*, if_true, if_false, Bool.false_eq_true, reduceIte]; done)
                | (unfold m_eF; simp only [*, if_true, if_false, Bool.false_eq_true, reduceIte] <;> rfl)
                | (unfold m_eF; cases hq : m_ix1 M.1.length e <;> simp [*])
          · refine jv_iload_n (q := 107) G 0 dX8_look_106 rfl rfl rfl ?_
            refine jv_goto (q := 111) G dX8_look_107 (by decide) ?_
            refine jv_iret G hr dX8_look_111 (Nat.le_of_ble_eq_true rfl) (Nat.le_of_ble_eq_true rfl) ?_
            refine ⟨_, rfl, fun hz => ?_, ?_, hrs⟩
            · first
                | (unfold m_look; simp only [*, if_true, if_false, Bool.false_eq_true, reduceIte] <;> rfl)
                | (exfalso; revert hz; unfold m_eF; simp [*]; done)
                | (exfalso; revert hz; unfold m_eF; cases hq : m_ix1 M.1.length e <;> simp [*]; done)
                | (unfold m_look; simp_all; done)
            · rw [hth]; first
                | (unfold m_eF; simp only [*, if_true, if_false, Bool.false_eq_true, reduceIte]; done)
                | (unfold m_eF; simp only [*, if_true, if_false, Bool.false_eq_true, reduceIte] <;> rfl)
                | (unfold m_eF; cases hq : m_ix1 M.1.length e <;> simp [*])
        · refine jv_aload_n (q := 93) G 1 dX8_look_92 rfl rfl rfl ?_
          refine jv_getQ (q := 96) G dX8_look_93 fl_X8_13 rfl hS.1 (rf_p3 hS) rfl ?_
          refine jv_iload_n (q := 97) G 2 dX8_look_96 rfl rfl rfl ?_
          refine jv_iald (q := 98) G dX8_look_97 (rf_a3 hS) rfl (by omega) (by decide) hE.1 rfl ?_
          refine jv_goto (q := 111) G dX8_look_98 (by decide) ?_
          refine jv_iret G hr dX8_look_111 (Nat.le_of_ble_eq_true rfl) (Nat.le_of_ble_eq_true rfl) ?_
          refine ⟨_, rfl, fun hz => ?_, ?_, hrs⟩
          · first
              | (unfold m_look; simp only [*, if_true, if_false, Bool.false_eq_true, reduceIte] <;> rfl)
              | (exfalso; revert hz; unfold m_eF; simp [*]; done)
              | (exfalso; revert hz; unfold m_eF; cases hq : m_ix1 M.1.length e <;> simp [*]; done)
              | (unfold m_look; simp_all; done)
          · rw [hth]; first
              | (unfold m_eF; simp only [*, if_true, if_false, Bool.false_eq_true, reduceIte]; done)
              | (unfold m_eF; simp only [*, if_true, if_false, Bool.false_eq_true, reduceIte] <;> rfl)
              | (unfold m_eF; cases hq : m_ix1 M.1.length e <;> simp [*])
      · refine jv_aload_n (q := 71) G 1 dX8_look_70 rfl rfl rfl ?_
        refine jv_getQ (q := 74) G dX8_look_71 fl_X8_7 rfl hS.1 (rf_p2 hS) rfl ?_
        refine jv_iload_n (q := 75) G 2 dX8_look_74 rfl rfl rfl ?_
        refine jv_zald (q := 76) G dX8_look_75 (rf_a2 hS) rfl (by omega) (by decide) (hD k_e (by omega)).1 rfl ?_
        refine jv_if_eqB (q := 79) (tgt := 83) G dX8_look_76 (by decide) rfl (fun c7 => ?_) (fun c7 => ?_)
        · refine jv_iconst (q := 84) (v := nI 0) G dX8_look_83 (by decide) rfl ?_
          refine jv_goto (q := 111) G dX8_look_84 (by decide) ?_
          refine jv_iret G hr dX8_look_111 (Nat.le_of_ble_eq_true rfl) (Nat.le_of_ble_eq_true rfl) ?_
          refine ⟨_, rfl, fun hz => ?_, ?_, hrs⟩
          · first
              | (unfold m_look; simp only [*, if_true, if_false, Bool.false_eq_true, reduceIte] <;> rfl)
              | (exfalso; revert hz; unfold m_eF; simp [*]; done)
              | (exfalso; revert hz; unfold m_eF; cases hq : m_ix1 M.1.length e <;> simp [*]; done)
              | (unfold m_look; simp_all; done)
          · rw [hth]; first
              | (unfold m_eF; simp only [*, if_true, if_false, Bool.false_eq_true, reduceIte]; done)
              | (unfold m_eF; simp only [*, if_true, if_false, Bool.false_eq_true, reduceIte] <;> rfl)
              | (unfold m_eF; cases hq : m_ix1 M.1.length e <;> simp [*])
        · refine jv_iconst (q := 80) (v := nI 1) G dX8_look_79 (by decide) rfl ?_
          refine jv_goto (q := 111) G dX8_look_80 (by decide) ?_
          refine jv_iret G hr dX8_look_111 (Nat.le_of_ble_eq_true rfl) (Nat.le_of_ble_eq_true rfl) ?_
          refine ⟨_, rfl, fun hz => ?_, ?_, hrs⟩
          · first
              | (unfold m_look; simp only [*, if_true, if_false, Bool.false_eq_true, reduceIte] <;> rfl)
              | (exfalso; revert hz; unfold m_eF; simp [*]; done)
              | (exfalso; revert hz; unfold m_eF; cases hq : m_ix1 M.1.length e <;> simp [*]; done)
              | (unfold m_look; simp_all; done)
          · rw [hth]; first
              | (unfold m_eF; simp only [*, if_true, if_false, Bool.false_eq_true, reduceIte]; done)
              | (unfold m_eF; simp only [*, if_true, if_false, Bool.false_eq_true, reduceIte] <;> rfl)
              | (unfold m_eF; cases hq : m_ix1 M.1.length e <;> simp [*])
    · omega
  · have ze := rr_lt_f c1
    refine jv_iconst (q := 10) (v := nI 1) G dX8_look_9 (by decide) rfl ?_
    refine jv_goto (q := 14) G dX8_look_10 (by decide) ?_
    refine jv_putI (q := 17) G dX8_look_14 fl_X8_122 rfl hS.1 rfl ?_
    have hr1 : rs x q h (jv_wI h x 0 (nI 1)) := rs.rf.wI (nI 1) (Or.inl ⟨rfl, Or.inl rfl⟩)
    have hth : jv_I (jv_wI h x 0 (nI 1)) x 0 = (nI 1) := jv_I_self _ _ _ _
    have hR := hr1.R hR
    have hrs := hrs.tr hr1
    generalize jv_wI h x 0 (nI 1) = h8 at hth hR hrs ⊢
    obtain ⟨hS, ⟨hn8, hn⟩, ⟨hm12, hm⟩, hD, hV, hCs⟩ := id hR
    have hsc : sc x q h8 h8 := sc.rf
    refine jv_aload_n (q := 18) G 0 dX8_look_17 rfl rfl rfl ?_
    refine jv_getI (q := 21) G dX8_look_18 fl_X8_122 rfl hS.1 hth rfl ?_
    refine jv_if_leN (q := 24) (tgt := 26) G dX8_look_21 (by decide) rfl (by omega) (fun c9 => ?_) (fun c9 => ?_)
    · omega
    · refine jv_iconst (q := 25) (v := nI 0) G dX8_look_24 (by decide) rfl ?_
      refine jv_iret G hr dX8_look_25 (Nat.le_of_ble_eq_true rfl) (Nat.le_of_ble_eq_true rfl) ?_
      refine ⟨_, rfl, fun hz => ?_, ?_, hrs⟩
      · first
          | (unfold m_look; simp only [*, if_true, if_false, Bool.false_eq_true, reduceIte] <;> rfl)
          | (exfalso; revert hz; unfold m_eF; simp [*]; done)
          | (exfalso; revert hz; unfold m_eF; cases hq : m_ix1 M.1.length e <;> simp [*]; done)
          | (unfold m_look; simp_all; done)
      · rw [hth]; first
          | (unfold m_eF; simp only [*, if_true, if_false, Bool.false_eq_true, reduceIte]; done)
          | (unfold m_eF; simp only [*, if_true, if_false, Bool.false_eq_true, reduceIte] <;> rfl)
          | (unfold m_eF; cases hq : m_ix1 M.1.length e <;> simp [*])
