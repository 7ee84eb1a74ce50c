theorem ix_neg {a : Int32} {n : Nat} (h : a < 0) : m_ix1 n a = none := rr_lt_f (by simp [rr_lt, h])
theorem ix_ge {a : Int32} {n : Nat} (h : ¬ a < nI n) : m_ix1 n a = none := rr_lt_f (by
  have h2 : nI n ≤ a := by
    rw [Int32.le_iff_toInt_le]
    rw [Int32.lt_iff_toInt_lt] at h
    omega
  simp [rr_lt, h2])
theorem ix_in {a : Int32} {n : Nat} (hn : n < 2 ^ 31) (h0 : ¬ a < 0) (h : a < nI n) : ∃ k, k < n ∧ a = nI k ∧ m_ix1 n a = some k := rr_lt_t hn (by
  have h2 : ¬ nI n ≤ a := by
    rw [Int32.le_iff_toInt_le]
    rw [Int32.lt_iff_toInt_lt] at h
    omega
  simp [rr_lt, h0, h2])
def m_u2 (M : mA) (c u : Int32) : Option (mC × mU) := match m_ix1 M.2.length c with
  | none => none
  | some k => match M.2[k]? with
    | none => none
    | some C => match m_ix1 (mc_l C).length u with
      | none => none
      | some j => match (mc_l C)[j]? with
        | none => none
        | some U => some (C, U)
def m_u3 (M : mA) (c e u : Int32) : Option (mC × Nat × mU) := match m_ix1 M.1.length e with
  | none => none
  | some i => match m_u2 M c u with
    | none => none
    | some p => some (p.1, i, p.2)
def m_usF (M : mA) (c e u : Int32) : Nat := match m_u3 M c e u with
  | none => 1
  | some p => if ma_s M p.2.1 then 0 else 2
def m_foretell (M : mA) (c e u : Int32) : Int32 := match m_u3 M c e u with
  | none => 0
  | some p => nI (m_mu M p.1 p.2.1 p.2.2).1
def m_runs (M : mA) (c e u : Int32) : Int32 := match m_u3 M c e u with
  | none => 0
  | some p => if (m_mu M p.1 p.2.1 p.2.2).1 = 0 ∨ (m_mu M p.1 p.2.1 p.2.2).1 = 8 then jv_oN (m_mu M p.1 p.2.1 p.2.2).2 else -1
def m_cpF (M : mA) (c u : Int32) : Nat := match m_u2 M c u with
  | none => 1
  | some _ => 0
def m_copied (M : mA) (c u : Int32) : Int32 := match m_u2 M c u with
  | none => 0
  | some p => match m_co (ma_t M (mc_e p.1)) (mu_k p.2) (mu_t p.2) (mu_n p.2) (mu_s p.2) with
    | none => -1
    | some z => m_bd (ma_t M (mc_e p.1)) z
theorem u2_some {M : mA} {c u : Int32} {p : mC × mU} (hm : M.2.length < 2 ^ 31) (hl : ∀ C ∈ M.2, (mc_l C).length < 2 ^ 31) (h : m_u2 M c u = some p) : ∃ k j, c = nI k ∧ k < M.2.length ∧ M.2[k]? = some p.1 ∧ u = nI j ∧ (mc_l p.1)[j]? = some p.2 := by
  unfold m_u2 at h
  cases hc : rr_lt c M.2.length with
  | false => rw [rr_lt_f hc] at h; cases h
  | true =>
    obtain ⟨k, h1, h2, h3⟩ := rr_lt_t hm hc
    rw [h3] at h
    dsimp only at h
    cases hC : M.2[k]? with
    | none => rw [hC] at h; cases h
    | some C =>
      rw [hC] at h
      dsimp only at h
      cases hu : rr_lt u (mc_l C).length with
      | false => rw [rr_lt_f hu] at h; cases h
      | true =>
        obtain ⟨j, g1, g2, g3⟩ := rr_lt_t (hl C (List.mem_of_getElem? hC)) hu
        rw [g3] at h
        dsimp only at h
        cases hU : (mc_l C)[j]? with
        | none => rw [hU] at h; cases h
        | some U => rw [hU] at h; cases h; exact ⟨k, j, h2, h1, hC, g2, hU⟩
theorem usF_0 {M : mA} {c e u : Int32} (hm : M.2.length < 2 ^ 31) (hn : M.1.length < 2 ^ 31) (hl : ∀ C ∈ M.2, (mc_l C).length < 2 ^ 31) (h : m_usF M c e u = 0) : ∃ k i j C U, c = nI k ∧ k < M.2.length ∧ M.2[k]? = some C ∧ u = nI j ∧ (mc_l C)[j]? = some U ∧ e = nI i ∧ i < M.1.length ∧ ma_s M i = true ∧ m_u3 M c e u = some (C, i, U) := by
  unfold m_usF at h
  cases h3 : m_u3 M c e u with
  | none => rw [h3] at h; cases h
  | some p =>
    rw [h3] at h
    dsimp only at h
    have h4 := h3
    unfold m_u3 at h4
    cases hc : rr_lt e M.1.length with
    | false => rw [rr_lt_f hc] at h4; cases h4
    | true =>
      obtain ⟨i, h5, h6, h7⟩ := rr_lt_t hn hc
      rw [h7] at h4
      dsimp only at h4
      cases h8 : m_u2 M c u with
      | none => rw [h8] at h4; cases h4
      | some z =>
        rw [h8] at h4
        cases h4
        obtain ⟨k, j, a1, a2, a3, a4, a5⟩ := u2_some hm hl h8
        refine ⟨k, i, j, z.1, z.2, a1, a2, a3, a4, a5, h6, h5, ?_, rfl⟩
        cases hs : ma_s M i with
        | true => rfl
        | false => rw [hs] at h; cases h
theorem usF_lt (M : mA) (c e u : Int32) : m_usF M c e u < 3 := by
  unfold m_usF
  split
  · decide
  · split <;> decide
theorem rf_l20 {x : Nat} {q : Nat → Nat} {h : jv_H} {M : mA} (hR : rf_R x q h M) : ∀ C ∈ M.2, (mc_l C).length < 2 ^ 31 := by
  intro C hC
  obtain ⟨c, hc⟩ := List.mem_iff_getElem?.mp hC
  have := (hR.2.2.2.2.2 c C hc).2.2.2.2.2.1
  omega
set_option maxHeartbeats 4000000 in
set_option maxRecDepth 100000 in
theorem r_useFault {lA : Launch} (hlt : lA.stackTraces = false) {D : jv_D} {base : Nat} {x : Nat} {q : Nat → Nat} {h : jv_H} {M : mA} {c e u : Int32} (hR : rf_R x q h M) : jv_Met lA D base yX8_useFault (.code yX8_useFault cX8_useFault 4 (some .int)) 2 0 0 [.ref x, .int c, .int e, .int u] h (jv_rI (nI (m_usF M c e u)) h) jv_no := by
  refine jv_ofV (lo := [(0, .ref x), (1, .int c), (2, .int e), (3, .int u)]) hlt (by decide) (Nat.le_of_ble_eq_true rfl) rfl (fun E hEl hEd hEz Z G hr ht hnm => ?_)
  subst hEl; subst hEd; subst hEz
  obtain ⟨hS, ⟨hn8, hn⟩, ⟨hm12, hm⟩, hD, hV, hCs⟩ := id hR
  refine jv_aload_n (q := 1) G 0 dX8_useFault_0 rfl rfl rfl ?_
  refine jv_iload_n (q := 2) G 1 dX8_useFault_1 rfl rfl rfl ?_
  refine jv_callV_I (q := 5) (h1 := h) (As := [.int c]) (rest := []) (ce' := 0) (sl' := 0) (r := jv_bI (rr_lt c M.2.length)) G Z ml_X8_205 (r_isCaller hlt hS hm) hS.1 dX8_useFault_2 rfl (by decide) (by decide) (by decide) (by decide) (Nat.le_of_ble_eq_true rfl) rfl rfl rfl rfl ?_
  refine jv_if_eqB (q := 8) (tgt := 30) G dX8_useFault_5 (by decide) rfl (fun c1 => ?_) (fun c1 => ?_)
  · have zc := rr_lt_f c1
    refine jv_iconst (q := 31) (v := nI 1) G dX8_useFault_30 (by decide) rfl ?_
    refine jv_goto (q := 48) G dX8_useFault_31 (by decide) ?_
    refine jv_iret G hr dX8_useFault_48 (Nat.le_of_ble_eq_true rfl) (Nat.le_of_ble_eq_true rfl) ?_
    refine ⟨?_, rfl⟩
    first
      | (unfold m_usF m_u3 m_u2; simp only [*, if_true, if_false, Bool.false_eq_true, reduceIte]; done)
      | (unfold m_usF m_u3 m_u2; simp only [*, if_true, if_false, Bool.false_eq_true, reduceIte] <;> rfl)
      | (unfold m_usF m_u3 m_u2; simp [*]; done)
      | (unfold m_usF m_u3 m_u2; cases hq : m_ix1 M.1.length e <;> simp [*])
  · obtain ⟨k_c, hk_c, ek_c, zc⟩ := rr_lt_t (by omega) c1
    subst ek_c
    obtain ⟨C, hC⟩ := jv_getLt (l := M.2) (k := k_c) (by omega)
    obtain ⟨hC1, hok⟩ := hCs k_c C hC
    have hl20 := hok.2.2.2.2.1
    refine jv_aload_n (q := 9) G 0 dX8_useFault_8 rfl rfl rfl ?_
    refine jv_iload_n (q := 10) G 2 dX8_useFault_9 rfl rfl rfl ?_
    refine jv_callV_I (q := 13) (h1 := h) (As := [.int e]) (rest := []) (ce' := 0) (sl' := 0) (r := jv_bI (rr_lt e M.1.length)) G Z ml_X8_132 (r_isEdition hlt hS hn) hS.1 dX8_useFault_10 rfl (by decide) (by decide) (by decide) (by decide) (Nat.le_of_ble_eq_true rfl) rfl rfl rfl rfl ?_
    refine jv_if_eqB (q := 16) (tgt := 30) G dX8_useFault_13 (by decide) rfl (fun c2 => ?_) (fun c2 => ?_)
    · have ze := rr_lt_f c2
      refine jv_iconst (q := 31) (v := nI 1) G dX8_useFault_30 (by decide) rfl ?_
      refine jv_goto (q := 48) G dX8_useFault_31 (by decide) ?_
      refine jv_iret G hr dX8_useFault_48 (Nat.le_of_ble_eq_true rfl) (Nat.le_of_ble_eq_true rfl) ?_
      refine ⟨?_, rfl⟩
      first
        | (unfold m_usF m_u3 m_u2; simp only [*, if_true, if_false, Bool.false_eq_true, reduceIte]; done)
        | (unfold m_usF m_u3 m_u2; simp only [*, if_true, if_false, Bool.false_eq_true, reduceIte] <;> rfl)
        | (unfold m_usF m_u3 m_u2; simp [*]; done)
        | (unfold m_usF m_u3 m_u2; cases hq : m_ix1 M.1.length e <;> simp [*])
    · obtain ⟨k_e, hk_e, ek_e, ze⟩ := rr_lt_t (by omega) c2
      subst ek_e
      refine jv_iload_n (q := 17) G 3 dX8_useFault_16 rfl rfl rfl ?_
      refine jv_if_lt (q := 20) (tgt := 30) G dX8_useFault_17 (by decide) rfl (fun c3 => ?_) (fun c3 => ?_)
      · have zu : m_ix1 (mc_l C).length u = none := ix_neg c3
        refine jv_iconst (q := 31) (v := nI 1) G dX8_useFault_30 (by decide) rfl ?_
        refine jv_goto (q := 48) G dX8_useFault_31 (by decide) ?_
        refine jv_iret G hr dX8_useFault_48 (Nat.le_of_ble_eq_true rfl) (Nat.le_of_ble_eq_true rfl) ?_
        refine ⟨?_, rfl⟩
        first
          | (unfold m_usF m_u3 m_u2; simp only [*, if_true, if_false, Bool.false_eq_true, reduceIte]; done)
          | (unfold m_usF m_u3 m_u2; simp only [*, if_true, if_false, Bool.false_eq_true, reduceIte] <;> rfl)
          | (unfold m_usF m_u3 m_u2; simp [*]; done)
          | (unfold m_usF m_u3 m_u2; cases hq : m_ix1 M.1.length e <;> simp [*])
      · refine jv_iload_n (q := 21) G 3 dX8_useFault_20 rfl rfl rfl ?_
        refine jv_aload_n (q := 22) G 0 dX8_useFault_21 rfl rfl rfl ?_
        refine jv_getQ (q := 25) G dX8_useFault_22 fl_X8_77 rfl hS.1 (rf_p25 hS) rfl ?_
        refine jv_iload_n (q := 26) G 1 dX8_useFault_25 rfl rfl rfl ?_
        refine jv_iald (q := 27) G dX8_useFault_26 (rf_a25 hS) rfl (by omega) (by decide) hC1.2.2.2.1 rfl ?_
        refine jv_icmp_lt (q := 30) (tgt := 34) G dX8_useFault_27 (by decide) rfl (fun c4 => ?_) (fun c4 => ?_)
        · obtain ⟨k_u, hku, eku, zu⟩ := ix_in (by omega) c3 c4
          subst eku
          obtain ⟨U, hU⟩ := jv_getLt (l := mc_l C) (k := k_u) (by omega)
          refine jv_aload_n (q := 35) G 0 dX8_useFault_34 rfl rfl rfl ?_
          refine jv_getQ (q := 38) G dX8_useFault_35 fl_X8_7 rfl hS.1 (rf_p2 hS) rfl ?_
          refine jv_iload_n (q := 39) G 2 dX8_useFault_38 rfl rfl rfl ?_
          refine jv_zald (q := 40) G dX8_useFault_39 (rf_a2 hS) rfl (by omega) (by decide) (hD k_e (by omega)).1 rfl ?_
          refine jv_if_neB (q := 43) (tgt := 47) G dX8_useFault_40 (by decide) rfl (fun c5 => ?_) (fun c5 => ?_)
          · refine jv_iconst (q := 48) (v := nI 0) G dX8_useFault_47 (by decide) rfl ?_
            refine jv_iret G hr dX8_useFault_48 (Nat.le_of_ble_eq_true rfl) (Nat.le_of_ble_eq_true rfl) ?_
            refine ⟨?_, rfl⟩
            first
              | (unfold m_usF m_u3 m_u2; simp only [*, if_true, if_false, Bool.false_eq_true, reduceIte]; done)
              | (unfold m_usF m_u3 m_u2; simp only [*, if_true, if_false, Bool.false_eq_true, reduceIte] <;> rfl)
              | (unfold m_usF m_u3 m_u2; simp [*]; done)
              | (unfold m_usF m_u3 m_u2; cases hq : m_ix1 M.1.length e <;> simp [*])
          · refine jv_iconst (q := 44) (v := nI 2) G dX8_useFault_43 (by decide) rfl ?_
            refine jv_goto (q := 48) G dX8_useFault_44 (by decide) ?_
            refine jv_iret G hr dX8_useFault_48 (Nat.le_of_ble_eq_true rfl) (Nat.le_of_ble_eq_true rfl) ?_
            refine ⟨?_, rfl⟩
            first
              | (unfold m_usF m_u3 m_u2; simp only [*, if_true, if_false, Bool.false_eq_true, reduceIte]; done)
              | (unfold m_usF m_u3 m_u2; simp only [*, if_true, if_false, Bool.false_eq_true, reduceIte] <;> rfl)
              | (unfold m_usF m_u3 m_u2; simp [*]; done)
              | (unfold m_usF m_u3 m_u2; cases hq : m_ix1 M.1.length e <;> simp [*])
        · have zu : m_ix1 (mc_l C).length u = none := ix_ge c4
          refine jv_iconst (q := 31) (v := nI 1) G dX8_useFault_30 (by decide) rfl ?_
          refine jv_goto (q := 48) G dX8_useFault_31 (by decide) ?_
          refine jv_iret G hr dX8_useFault_48 (Nat.le_of_ble_eq_true rfl) (Nat.le_of_ble_eq_true rfl) ?_
          refine ⟨?_, rfl⟩
          first
            | (unfold m_usF m_u3 m_u2; simp only [*, if_true, if_false, Bool.false_eq_true, reduceIte]; done)
            | (unfold m_usF m_u3 m_u2; simp only [*, if_true, if_false, Bool.false_eq_true, reduceIte] <;> rfl)
            | (unfold m_usF m_u3 m_u2; simp [*]; done)
            | (unfold m_usF m_u3 m_u2; cases hq : m_ix1 M.1.length e <;> simp [*])
theorem ite_lt10 {c : Prop} [Decidable c] {a b : Nat × Option Nat} (ha : a.1 < 10) (hb : b.1 < 10) : (if c then a else b).1 < 10 := by split <;> assumption
theorem mu_lt (M : mA) (C : mC) (e : Nat) (U : mU) : (m_mu M C e U).1 < 10 := by
  unfold m_mu m_met
  repeat' first | (show (_ : Nat) < 10; decide) | refine ite_lt10 ?_ ?_ | split
  all_goals first | exact (by decide : 0 < 10) | exact (by decide : 8 < 10)
set_option maxHeartbeats 4000000 in
set_option maxRecDepth 100000 in
theorem r_foretell {lA : Launch} (hlt : lA.stackTraces = false) {D : jv_D} {base : Nat} {x : Nat} {q : Nat → Nat} {h : jv_H} {M : mA} {c e u : Int32} (hR : rf_R x q h M) : jv_Met lA D base yX8_foretell (.code yX8_foretell cX8_foretell 4 (some .int)) 17 0 0 [.ref x, .int c, .int e, .int u] h (fun v h' => ∃ r, v = some (.int r) ∧ ((m_usF M c e u) = 0 → r = m_foretell M c e u) ∧ jv_I h' x 0 = nI (m_usF M c e u) ∧ rs x q h h') jv_no := by
  refine jv_ofV (lo := [(0, .ref x), (1, .int c), (2, .int e), (3, .int u)]) hlt (by decide) (Nat.le_of_ble_eq_true rfl) rfl (fun E hEl hEd hEz Z G hr ht hnm => ?_)
  subst hEl; subst hEd; subst hEz
  obtain ⟨hS, ⟨hn8, hn⟩, ⟨hm12, hm⟩, hD, hV, hCs⟩ := id hR
  have hrs : rs x q h h := rs.rf
  have h3 := usF_lt M c e u
  refine jv_aload_n (q := 1) G 0 dX8_foretell_0 rfl rfl rfl ?_
  refine jv_aload_n (q := 2) G 0 dX8_foretell_1 rfl rfl rfl ?_
  refine jv_iload_n (q := 3) G 1 dX8_foretell_2 rfl rfl rfl ?_
  refine jv_iload_n (q := 4) G 2 dX8_foretell_3 rfl rfl rfl ?_
  refine jv_iload_n (q := 5) G 3 dX8_foretell_4 rfl rfl rfl ?_
  refine jv_callV_I (q := 8) (h1 := h) (As := [.int c, .int e, .int u]) (rest := [.ref x]) (ce' := 0) (sl' := 0) (r := nI (m_usF M c e u)) G Z ml_X8_212 (r_useFault hlt hR) hS.1 dX8_foretell_5 rfl (by decide) (by decide) (by decide) (by decide) (Nat.le_of_ble_eq_true rfl) rfl rfl rfl rfl ?_
  refine jv_putI (q := 11) G dX8_foretell_8 fl_X8_122 rfl hS.1 rfl ?_
  have hr1 : rs x q h (jv_wI h x 0 (nI (m_usF M c e u))) := rs.rf.wI (nI (m_usF M c e u)) (Or.inl ⟨rfl, Or.inl rfl⟩)
  have hth : jv_I (jv_wI h x 0 (nI (m_usF M c e u))) x 0 = (nI (m_usF M c e u)) := jv_I_self _ _ _ _
  have hR := hr1.R hR
  have hrs := hrs.tr hr1
  generalize jv_wI h x 0 (nI (m_usF M c e u)) = h1 at hth hR hrs ⊢
  obtain ⟨hS, ⟨hn8, hn⟩, ⟨hm12, hm⟩, hD, hV, hCs⟩ := id hR
  refine jv_aload_n (q := 12) G 0 dX8_foretell_11 rfl rfl rfl ?_
  refine jv_getI (q := 15) G dX8_foretell_12 fl_X8_122 rfl hS.1 hth rfl ?_
  refine jv_if_leN (q := 18) (tgt := 22) G dX8_foretell_15 (by decide) rfl (by omega) (fun c2 => ?_) (fun c2 => ?_)
  · obtain ⟨k_c, k_e, k_u, C, U, ekc, hkc, hC, eku, hU, eke, hke, hse, h3⟩ := usF_0 (by omega) (by omega) (rf_l20 hR) c2
    subst ekc; subst eke; subst eku
    refine jv_aload_n (q := 23) G 0 dX8_foretell_22 rfl rfl rfl ?_
    refine jv_iload_n (q := 24) G 1 dX8_foretell_23 rfl rfl rfl ?_
    refine jv_iload_n (q := 25) G 2 dX8_foretell_24 rfl rfl rfl ?_
    refine jv_iload_n (q := 26) G 3 dX8_foretell_25 rfl rfl rfl ?_
    refine jv_callV (q := 29) (As := [.int (nI k_c), .int (nI k_e), .int (nI k_u)]) (rest := []) G Z ml_X8_215 (r_meetsUse hlt hR hC hU (by omega) hse) hS.1 dX8_foretell_26 rfl (by decide) (by decide) (by decide) (by decide) (Nat.le_of_ble_eq_true rfl) rfl rfl (fun v4 h3 y5 => ?_) (fun _ _ hx => hx.elim)
    obtain ⟨rfl, hr2, hran, hx0⟩ := y5
    show jv_V E 4 h3 0 0 (jv_Q E (fun v h' => ∃ r, v = some (.int r) ∧ ((m_usF M (nI k_c) (nI k_e) (nI k_u)) = 0 → r = m_foretell M (nI k_c) (nI k_e) (nI k_u)) ∧ jv_I h' x 0 = nI (m_usF M (nI k_c) (nI k_e) (nI k_u)) ∧ rs x q h h') jv_no 0 0) 29 [(0, .ref x), (1, .int (nI k_c)), (2, .int (nI k_e)), (3, .int (nI k_u))] [.int (nI ((m_mu M C k_e U).1))]
    have hmu := mu_lt M C k_e U
    have hR := hr2.R hR
    have hth := hx0.trans hth
    have hrs := hrs.tr hr2
    obtain ⟨hS, ⟨hn8, hn⟩, ⟨hm12, hm⟩, hD, hV, hCs⟩ := id hR
    refine jv_iret G hr dX8_foretell_29 (Nat.le_of_ble_eq_true rfl) (Nat.le_of_ble_eq_true rfl) ?_
    refine ⟨_, rfl, fun hz => ?_, hth, hrs⟩
    first
      | exact absurd hz (by assumption)
      | (unfold m_foretell; simp only [*, if_true, if_false, reduceIte, or_true, true_or] <;> rfl)
      | (unfold m_foretell; simp_all; done)
  · refine jv_iconst (q := 19) (v := nI 0) G dX8_foretell_18 (by decide) rfl ?_
    refine jv_goto (q := 29) G dX8_foretell_19 (by decide) ?_
    refine jv_iret G hr dX8_foretell_29 (Nat.le_of_ble_eq_true rfl) (Nat.le_of_ble_eq_true rfl) ?_
    refine ⟨_, rfl, fun hz => ?_, hth, hrs⟩
    first
      | exact absurd hz (by assumption)
      | (unfold m_foretell; simp only [*, if_true, if_false, reduceIte, or_true, true_or] <;> rfl)
      | (unfold m_foretell; simp_all; done)
set_option maxHeartbeats 4000000 in
set_option maxRecDepth 100000 in
theorem r_runs {lA : Launch} (hlt : lA.stackTraces = false) {D : jv_D} {base : Nat} {x : Nat} {q : Nat → Nat} {h : jv_H} {M : mA} {c e u : Int32} (hR : rf_R x q h M) : jv_Met lA D base yX8_runs (.code yX8_runs cX8_runs 5 (some .int)) 17 0 0 [.ref x, .int c, .int e, .int u] h (fun v h' => ∃ r, v = some (.int r) ∧ ((m_usF M c e u) = 0 → r = m_runs M c e u) ∧ jv_I h' x 0 = nI (m_usF M c e u) ∧ rs x q h h') jv_no := by
  refine jv_ofV (lo := [(0, .ref x), (1, .int c), (2, .int e), (3, .int u)]) hlt (by decide) (Nat.le_of_ble_eq_true rfl) rfl (fun E hEl hEd hEz Z G hr ht hnm => ?_)
  subst hEl; subst hEd; subst hEz
  obtain ⟨hS, ⟨hn8, hn⟩, ⟨hm12, hm⟩, hD, hV, hCs⟩ := id hR
  have hrs : rs x q h h := rs.rf
  have h3 := usF_lt M c e u
  refine jv_aload_n (q := 1) G 0 dX8_runs_0 rfl rfl rfl ?_
  refine jv_aload_n (q := 2) G 0 dX8_runs_1 rfl rfl rfl ?_
  refine jv_iload_n (q := 3) G 1 dX8_runs_2 rfl rfl rfl ?_
  refine jv_iload_n (q := 4) G 2 dX8_runs_3 rfl rfl rfl ?_
  refine jv_iload_n (q := 5) G 3 dX8_runs_4 rfl rfl rfl ?_
  refine jv_callV_I (q := 8) (h1 := h) (As := [.int c, .int e, .int u]) (rest := [.ref x]) (ce' := 0) (sl' := 0) (r := nI (m_usF M c e u)) G Z ml_X8_212 (r_useFault hlt hR) hS.1 dX8_runs_5 rfl (by decide) (by decide) (by decide) (by decide) (Nat.le_of_ble_eq_true rfl) rfl rfl rfl rfl ?_
  refine jv_putI (q := 11) G dX8_runs_8 fl_X8_122 rfl hS.1 rfl ?_
  have hr1 : rs x q h (jv_wI h x 0 (nI (m_usF M c e u))) := rs.rf.wI (nI (m_usF M c e u)) (Or.inl ⟨rfl, Or.inl rfl⟩)
  have hth : jv_I (jv_wI h x 0 (nI (m_usF M c e u))) x 0 = (nI (m_usF M c e u)) := jv_I_self _ _ _ _
  have hR := hr1.R hR
  have hrs := hrs.tr hr1
  generalize jv_wI h x 0 (nI (m_usF M c e u)) = h1 at hth hR hrs ⊢
  obtain ⟨hS, ⟨hn8, hn⟩, ⟨hm12, hm⟩, hD, hV, hCs⟩ := id hR
  refine jv_aload_n (q := 12) G 0 dX8_runs_11 rfl rfl rfl ?_
  refine jv_getI (q := 15) G dX8_runs_12 fl_X8_122 rfl hS.1 hth rfl ?_
  refine jv_if_leN (q := 18) (tgt := 20) G dX8_runs_15 (by decide) rfl (by omega) (fun c2 => ?_) (fun c2 => ?_)
  · obtain ⟨k_c, k_e, k_u, C, U, ekc, hkc, hC, eku, hU, eke, hke, hse, h3⟩ := usF_0 (by omega) (by omega) (rf_l20 hR) c2
    subst ekc; subst eke; subst eku
    refine jv_aload_n (q := 21) G 0 dX8_runs_20 rfl rfl rfl ?_
    refine jv_iload_n (q := 22) G 1 dX8_runs_21 rfl rfl rfl ?_
    refine jv_iload_n (q := 23) G 2 dX8_runs_22 rfl rfl rfl ?_
    refine jv_iload_n (q := 24) G 3 dX8_runs_23 rfl rfl rfl ?_
    refine jv_callV (q := 27) (As := [.int (nI k_c), .int (nI k_e), .int (nI k_u)]) (rest := []) G Z ml_X8_215 (r_meetsUse hlt hR hC hU (by omega) hse) hS.1 dX8_runs_24 rfl (by decide) (by decide) (by decide) (by decide) (Nat.le_of_ble_eq_true rfl) rfl rfl (fun v4 h3 y5 => ?_) (fun _ _ hx => hx.elim)
    obtain ⟨rfl, hr2, hran, hx0⟩ := y5
    show jv_V E 5 h3 0 0 (jv_Q E (fun v h' => ∃ r, v = some (.int r) ∧ ((m_usF M (nI k_c) (nI k_e) (nI k_u)) = 0 → r = m_runs M (nI k_c) (nI k_e) (nI k_u)) ∧ jv_I h' x 0 = nI (m_usF M (nI k_c) (nI k_e) (nI k_u)) ∧ rs x q h h') jv_no 0 0) 27 [(0, .ref x), (1, .int (nI k_c)), (2, .int (nI k_e)), (3, .int (nI k_u))] [.int (nI ((m_mu M C k_e U).1))]
    have hmu := mu_lt M C k_e U
    have hR := hr2.R hR
    have hth := hx0.trans hth
    have hrs := hrs.tr hr2
    obtain ⟨hS, ⟨hn8, hn⟩, ⟨hm12, hm⟩, hD, hV, hCs⟩ := id hR
    refine jv_istore (q := 29) (lo' := [(4, .int (nI ((m_mu M C k_e U).1))), (0, .ref x), (1, .int (nI k_c)), (2, .int (nI k_e)), (3, .int (nI k_u))]) G dX8_runs_27 (by decide) rfl rfl ?_
    refine jv_iload (q := 31) G 0 dX8_runs_29 rfl rfl ?_
    refine jv_if_eqN (q := 34) (tgt := 41) G dX8_runs_31 (by decide) rfl (by omega) (fun c6 => ?_) (fun c6 => ?_)
    · refine jv_aload_n (q := 42) G 1 dX8_runs_41 rfl rfl rfl ?_
      refine jv_getI (q := 45) G dX8_runs_42 fl_X8_192 rfl hS.1 hran rfl ?_
      refine jv_goto (q := 49) G dX8_runs_45 (by decide) ?_
      refine jv_iret G hr dX8_runs_49 (Nat.le_of_ble_eq_true rfl) (Nat.le_of_ble_eq_true rfl) ?_
      refine ⟨_, rfl, fun hz => ?_, hth, hrs⟩
      first
        | exact absurd hz (by assumption)
        | (unfold m_runs; simp only [*, if_true, if_false, reduceIte, or_true, true_or] <;> rfl)
        | (unfold m_runs; simp_all; done)
    · refine jv_iload (q := 36) G 0 dX8_runs_34 rfl rfl ?_
      refine jv_bipush (q := 38) (v := nI 8) G dX8_runs_36 (by decide) rfl ?_
      refine jv_icmp_neN (q := 41) (tgt := 48) G dX8_runs_38 (by decide) rfl (by omega) (by omega) (fun c7 => ?_) (fun c7 => ?_)
      · refine jv_iconst (q := 49) (v := (-1)) G dX8_runs_48 (by decide) rfl ?_
        refine jv_iret G hr dX8_runs_49 (Nat.le_of_ble_eq_true rfl) (Nat.le_of_ble_eq_true rfl) ?_
        refine ⟨_, rfl, fun hz => ?_, hth, hrs⟩
        first
          | exact absurd hz (by assumption)
          | (unfold m_runs; simp only [*, if_true, if_false, reduceIte, or_true, true_or] <;> rfl)
          | (unfold m_runs; simp_all; done)
      · refine jv_aload_n (q := 42) G 1 dX8_runs_41 rfl rfl rfl ?_
        refine jv_getI (q := 45) G dX8_runs_42 fl_X8_192 rfl hS.1 hran rfl ?_
        refine jv_goto (q := 49) G dX8_runs_45 (by decide) ?_
        refine jv_iret G hr dX8_runs_49 (Nat.le_of_ble_eq_true rfl) (Nat.le_of_ble_eq_true rfl) ?_
        refine ⟨_, rfl, fun hz => ?_, hth, hrs⟩
        first
          | exact absurd hz (by assumption)
          | (unfold m_runs; simp only [*, if_true, if_false, reduceIte, or_true, true_or] <;> rfl)
          | (unfold m_runs; simp_all; done)
  · refine jv_iconst (q := 19) (v := nI 0) G dX8_runs_18 (by decide) rfl ?_
    refine jv_iret G hr dX8_runs_19 (Nat.le_of_ble_eq_true rfl) (Nat.le_of_ble_eq_true rfl) ?_
    refine ⟨_, rfl, fun hz => ?_, hth, hrs⟩
    first
      | exact absurd hz (by assumption)
      | (unfold m_runs; simp only [*, if_true, if_false, reduceIte, or_true, true_or] <;> rfl)
      | (unfold m_runs; simp_all; done)
