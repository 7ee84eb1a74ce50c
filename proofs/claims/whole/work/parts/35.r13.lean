theorem seF_0 {M : mA} {e : Int32} (h : m_seF M e = 0) (hn : M.1.length < 2 ^ 31) : ∃ k, k < M.1.length ∧ e = nI k ∧ m_ix1 M.1.length e = some k ∧ ma_s M k = true := by
  cases hb : rr_lt e M.1.length with
  | false =>
    unfold m_seF at h
    rw [rr_lt_f hb] at h
    cases h
  | true =>
    obtain ⟨k, h1, h2, h3⟩ := rr_lt_t hn hb
    refine ⟨k, h1, h2, h3, ?_⟩
    unfold m_seF at h
    rw [h3] at h
    dsimp only at h
    cases hs : ma_s M k with
    | true => rfl
    | false => rw [hs] at h; cases h
theorem seF_lt (M : mA) (e : Int32) : m_seF M e < 3 := by
  unfold m_seF
  split
  · decide
  · split <;> decide
def m_above (M : mA) (e u v : Int32) : Int32 := match m_ix1 M.1.length e with
  | none => 0
  | some k => jv_bI (m_isA (ma_t M k) u v)
def m_find (M : mA) (e n : Int32) (b : Bool) (a s : Int32) : Int32 := match m_ix1 M.1.length e with
  | none => 0
  | some k => match m_at (ma_t M k) n with
    | none => -1
    | some i => match (if b then m_fm (ma_t M k) 11 i a s else m_ff (ma_t M k) 11 i a s) with
      | none => -1
      | some p => jv_oN (((ma_t M k)[p.1]?).map mt_n)
def m_select (M : mA) (e n a s rc : Int32) : Int32 := match m_ix1 M.1.length e with
  | none => 0
  | some k => match m_at (ma_t M k) n with
    | none => -1
    | some i => match (ma_t M k)[i]? with
      | none => -1
      | some t => match m_own t (nI 1) a s with
        | none => -1
        | some j => match (mt_m t)[j]? with
          | none => -1
          | some m => match m_at (ma_t M k) rc with
            | none => -1
            | some r => match (ma_t M k)[r]? with
              | none => -1
              | some tr => if mt_i tr then -1 else match m_sl (ma_t M k) 11 t m i j r with
                | none => -1
                | some o => jv_oN (((ma_t M k)[o.1]?).map mt_n)
set_option maxHeartbeats 4000000 in
set_option maxRecDepth 100000 in
theorem r_above {lA : Launch} (hlt : lA.stackTraces = false) {D : jv_D} {base : Nat} {x : Nat} {q : Nat → Nat} {h : jv_H} {M : mA} {e u l : Int32} (hR : rf_R x q h M) : jv_Met lA D base yX8_above (.code yX8_above cX8_above 4 (some .boolean)) 16 0 0 [.ref x, .int e, .int u, .int l] h (fun v h' => ∃ r, v = some (.int r) ∧ ((m_seF M e) = 0 → r = m_above M e u l) ∧ jv_I h' x 0 = nI (m_seF M e) ∧ rs x q h h') jv_no := by
  refine jv_ofV (lo := [(0, .ref x), (1, .int e), (2, .int u), (3, .int l)]) hlt (by decide) (Nat.le_of_ble_eq_true rfl) rfl (fun E hEl hEd hEz Z G hr ht hnm => ?_)
  subst hEl; subst hEd; subst hEz
  obtain ⟨hS, ⟨hn8, hn⟩, ⟨hm12, hm⟩, hD, hV, hCs⟩ := id hR
  have hrs : rs x q h h := rs.rf
  have hsc : sc x q h h := sc.rf
  have h3 := seF_lt M e
  refine jv_aload_n (q := 1) G 0 dX8_above_0 rfl rfl rfl ?_
  refine jv_aload_n (q := 2) G 0 dX8_above_1 rfl rfl rfl ?_
  refine jv_iload_n (q := 3) G 1 dX8_above_2 rfl rfl rfl ?_
  refine jv_callV_I (q := 6) (h1 := h) (As := [.int e]) (rest := [.ref x]) (ce' := 0) (sl' := 0) (r := nI (m_seF M e)) G Z ml_X8_170 (r_sealedFault hlt hR) (hsc.S hS).1 dX8_above_3 rfl (by decide) (by decide) (by decide) (by decide) (Nat.le_of_ble_eq_true rfl) rfl rfl rfl rfl ?_
  refine jv_putI (q := 9) G dX8_above_6 fl_X8_122 rfl (hsc.S hS).1 rfl ?_
  have hr1 : rs x q h (jv_wI h x 0 (nI (m_seF M e))) := rs.rf.wI (nI (m_seF M e)) (Or.inl ⟨rfl, Or.inl rfl⟩)
  have hth : jv_I (jv_wI h x 0 (nI (m_seF M e))) x 0 = (nI (m_seF M e)) := jv_I_self _ _ _ _
  have hR := hr1.R hR
  have hrs := hrs.tr hr1
  generalize jv_wI h x 0 (nI (m_seF M e)) = h1 at hth hR hrs ⊢
  obtain ⟨hS, ⟨hn8, hn⟩, ⟨hm12, hm⟩, hD, hV, hCs⟩ := id hR
  have hsc : sc x q h1 h1 := sc.rf
  refine jv_aload_n (q := 10) G 0 dX8_above_9 rfl rfl rfl ?_
  refine jv_getI (q := 13) G dX8_above_10 fl_X8_122 rfl (hsc.S hS).1 hth rfl ?_
  refine jv_if_neN (q := 16) (tgt := 30) G dX8_above_13 (by decide) rfl (by omega) (fun c2 => ?_) (fun c2 => ?_)
  · refine jv_iconst (q := 31) (v := nI 0) G dX8_above_30 (by decide) rfl ?_
    refine jv_topI (y := jv_bI false) rfl ?_
    refine jv_zret G hr dX8_above_31 (Nat.le_of_ble_eq_true rfl) (Nat.le_of_ble_eq_true rfl) ?_
    refine ⟨_, rfl, fun hz => ?_, (hsc.x hS 0).trans hth, hrs.tr hsc.rs⟩
    first
      | exact absurd hz (by assumption)
      | (unfold m_above; simp only [*, if_true, if_false, Bool.false_eq_true, reduceIte, Option.map_some] <;> rfl)
      | (unfold m_above; simp_all; done)
  · obtain ⟨k_e, hke, eke, zke, hse⟩ := seF_0 c2 (by omega)
    subst eke
    have hE := (hD k_e (by omega)).2
    have hVe := (hV k_e (by omega) hse).1
    have hg := (hV k_e (by omega) hse).2
    have hl10 := hE.2.1
    refine jv_aload_n (q := 17) G 0 dX8_above_16 rfl rfl rfl ?_
    refine jv_iload_n (q := 18) G 1 dX8_above_17 rfl rfl rfl ?_
    refine jv_iload_n (q := 19) G 2 dX8_above_18 rfl rfl rfl ?_
    refine jv_iload_n (q := 20) G 3 dX8_above_19 rfl rfl rfl ?_
    refine jv_callV_I (q := 23) (h1 := h1) (As := [.int (nI k_e), .int u, .int l]) (rest := []) (ce' := 0) (sl' := 0) (r := jv_bI (m_isA (ma_t M k_e) u l)) G Z ml_X8_167 (r_isAbove hlt hsc hS (by omega) hVe) (hsc.S hS).1 dX8_above_20 rfl (by decide) (by decide) (by decide) (by decide) (Nat.le_of_ble_eq_true rfl) rfl rfl rfl rfl ?_
    refine jv_if_eqB (q := 26) (tgt := 30) G dX8_above_23 (by decide) rfl (fun c3 => ?_) (fun c3 => ?_)
    · refine jv_iconst (q := 31) (v := nI 0) G dX8_above_30 (by decide) rfl ?_
      refine jv_topI (y := jv_bI false) rfl ?_
      refine jv_zret G hr dX8_above_31 (Nat.le_of_ble_eq_true rfl) (Nat.le_of_ble_eq_true rfl) ?_
      refine ⟨_, rfl, fun hz => ?_, (hsc.x hS 0).trans hth, hrs.tr hsc.rs⟩
      first
        | exact absurd hz (by assumption)
        | (unfold m_above; simp only [*, if_true, if_false, Bool.false_eq_true, reduceIte, Option.map_some] <;> rfl)
        | (unfold m_above; simp_all; done)
    · refine jv_iconst (q := 27) (v := nI 1) G dX8_above_26 (by decide) rfl ?_
      refine jv_goto (q := 31) G dX8_above_27 (by decide) ?_
      refine jv_topI (y := jv_bI true) rfl ?_
      refine jv_zret G hr dX8_above_31 (Nat.le_of_ble_eq_true rfl) (Nat.le_of_ble_eq_true rfl) ?_
      refine ⟨_, rfl, fun hz => ?_, (hsc.x hS 0).trans hth, hrs.tr hsc.rs⟩
      first
        | exact absurd hz (by assumption)
        | (unfold m_above; simp only [*, if_true, if_false, Bool.false_eq_true, reduceIte, Option.map_some] <;> rfl)
        | (unfold m_above; simp_all; done)
set_option maxHeartbeats 4000000 in
set_option maxRecDepth 100000 in
theorem r_find {lA : Launch} (hlt : lA.stackTraces = false) {D : jv_D} {base : Nat} {x : Nat} {q : Nat → Nat} {h : jv_H} {M : mA} {e n a s : Int32} {b : Bool} (hR : rf_R x q h M) : jv_Met lA D base yX8_find (.code yX8_find cX8_find 8 (some .int)) 16 0 0 [.ref x, .int e, .int n, .int (jv_bI b), .int a, .int s] h (fun v h' => ∃ r, v = some (.int r) ∧ ((m_seF M e) = 0 → r = m_find M e n b a s) ∧ jv_I h' x 0 = nI (m_seF M e) ∧ rs x q h h') jv_no := by
  refine jv_ofV (lo := [(0, .ref x), (1, .int e), (2, .int n), (3, .int (jv_bI b)), (4, .int a), (5, .int s)]) hlt (by decide) (Nat.le_of_ble_eq_true rfl) rfl (fun E hEl hEd hEz Z G hr ht hnm => ?_)
  subst hEl; subst hEd; subst hEz
  obtain ⟨hS, ⟨hn8, hn⟩, ⟨hm12, hm⟩, hD, hV, hCs⟩ := id hR
  have hrs : rs x q h h := rs.rf
  have hsc : sc x q h h := sc.rf
  have h3 := seF_lt M e
  refine jv_aload_n (q := 1) G 0 dX8_find_0 rfl rfl rfl ?_
  refine jv_aload_n (q := 2) G 0 dX8_find_1 rfl rfl rfl ?_
  refine jv_iload_n (q := 3) G 1 dX8_find_2 rfl rfl rfl ?_
  refine jv_callV_I (q := 6) (h1 := h) (As := [.int e]) (rest := [.ref x]) (ce' := 0) (sl' := 0) (r := nI (m_seF M e)) G Z ml_X8_170 (r_sealedFault hlt hR) (hsc.S hS).1 dX8_find_3 rfl (by decide) (by decide) (by decide) (by decide) (Nat.le_of_ble_eq_true rfl) rfl rfl rfl rfl ?_
  refine jv_putI (q := 9) G dX8_find_6 fl_X8_122 rfl (hsc.S hS).1 rfl ?_
  have hr1 : rs x q h (jv_wI h x 0 (nI (m_seF M e))) := rs.rf.wI (nI (m_seF M e)) (Or.inl ⟨rfl, Or.inl rfl⟩)
  have hth : jv_I (jv_wI h x 0 (nI (m_seF M e))) x 0 = (nI (m_seF M e)) := jv_I_self _ _ _ _
  have hR := hr1.R hR
  have hrs := hrs.tr hr1
  generalize jv_wI h x 0 (nI (m_seF M e)) = h1 at hth hR hrs ⊢
  obtain ⟨hS, ⟨hn8, hn⟩, ⟨hm12, hm⟩, hD, hV, hCs⟩ := id hR
  have hsc : sc x q h1 h1 := sc.rf
  refine jv_aload_n (q := 10) G 0 dX8_find_9 rfl rfl rfl ?_
  refine jv_getI (q := 13) G dX8_find_10 fl_X8_122 rfl (hsc.S hS).1 hth rfl ?_
  refine jv_if_leN (q := 16) (tgt := 18) G dX8_find_13 (by decide) rfl (by omega) (fun c2 => ?_) (fun c2 => ?_)
  · obtain ⟨k_e, hke, eke, zke, hse⟩ := seF_0 c2 (by omega)
    subst eke
    have hE := (hD k_e (by omega)).2
    have hVe := (hV k_e (by omega) hse).1
    have hg := (hV k_e (by omega) hse).2
    have hl10 := hE.2.1
    refine jv_aload_n (q := 19) G 0 dX8_find_18 rfl rfl rfl ?_
    refine jv_iload_n (q := 20) G 1 dX8_find_19 rfl rfl rfl ?_
    refine jv_iload_n (q := 21) G 2 dX8_find_20 rfl rfl rfl ?_
    refine jv_callV_I (q := 24) (h1 := h1) (As := [.int (nI k_e), .int n]) (rest := []) (ce' := 0) (sl' := 0) (r := jv_oN ((m_at (ma_t M k_e) n).map (fun k => 10 * k_e + k))) G Z ml_X8_151 (r_at hlt (hsc.S hS) (by omega) (hsc.E hS hE)) (hsc.S hS).1 dX8_find_21 rfl (by decide) (by decide) (by decide) (by decide) (Nat.le_of_ble_eq_true rfl) rfl rfl rfl rfl ?_
    rcases Option.eq_none_or_eq_some (m_at (ma_t M k_e) n) with hk5 | ⟨k3, hk5⟩
    · refine jv_topI (y := (-1)) (by rw [hk5]; rfl) ?_
      refine jv_istore (q := 26) (lo' := [(6, .int (-1)), (0, .ref x), (1, .int (nI k_e)), (2, .int n), (3, .int (jv_bI b)), (4, .int a), (5, .int s)]) G dX8_find_24 (by decide) rfl rfl ?_
      refine jv_iload (q := 28) G 0 dX8_find_26 rfl rfl ?_
      refine jv_iconst (q := 29) (v := (-1)) G dX8_find_28 (by decide) rfl ?_
      refine jv_icmp_ne (q := 32) (tgt := 34) G dX8_find_29 (by decide) rfl (fun c6 => ?_) (fun c6 => ?_)
      · exact absurd rfl c6
      · refine jv_iconst (q := 33) (v := (-1)) G dX8_find_32 (by decide) rfl ?_
        refine jv_iret G hr dX8_find_33 (Nat.le_of_ble_eq_true rfl) (Nat.le_of_ble_eq_true rfl) ?_
        refine ⟨_, rfl, fun hz => ?_, (hsc.x hS 0).trans hth, hrs.tr hsc.rs⟩
        first
          | exact absurd hz (by assumption)
          | (unfold m_find; simp only [*, if_true, if_false, Bool.false_eq_true, reduceIte, Option.map_some] <;> rfl)
          | (unfold m_find; simp_all; done)
    · refine jv_topI (y := nI (10 * k_e + k3)) (by rw [hk5]; rfl) ?_
      obtain ⟨t4, ht4, nt4, lt4⟩ := m_at_some hk5
      have Tt4 := (hE.2.2 k3 t4 ht4).1
      have Ot4 := (hE.2.2 k3 t4 ht4).2
      have Lt4 := hE.2.1
      have Bt4n := Ot4.1; have Bt4k := Ot4.2.1
      refine jv_istore (q := 26) (lo' := [(6, .int (nI (10 * k_e + k3))), (0, .ref x), (1, .int (nI k_e)), (2, .int n), (3, .int (jv_bI b)), (4, .int a), (5, .int s)]) G dX8_find_24 (by decide) rfl rfl ?_
      refine jv_iload (q := 28) G 0 dX8_find_26 rfl rfl ?_
      refine jv_iconst (q := 29) (v := (-1)) G dX8_find_28 (by decide) rfl ?_
      refine jv_icmp_ne (q := 32) (tgt := 34) G dX8_find_29 (by decide) rfl (fun c7 => ?_) (fun c7 => ?_)
      · refine jv_iload_n (q := 35) G 4 dX8_find_34 rfl rfl rfl ?_
        refine jv_if_eqB (q := 38) (tgt := 52) G dX8_find_35 (by decide) rfl (fun c8 => ?_) (fun c8 => ?_)
        · refine jv_aload_n (q := 53) G 1 dX8_find_52 rfl rfl rfl ?_
          refine jv_iload_n (q := 54) G 2 dX8_find_53 rfl rfl rfl ?_
          refine jv_iload (q := 56) G 0 dX8_find_54 rfl rfl ?_
          refine jv_iload (q := 58) G 5 dX8_find_56 rfl rfl ?_
          refine jv_iload (q := 60) G 6 dX8_find_58 rfl rfl ?_
          refine jv_callV_I (q := 63) (h1 := h1) (As := [.int (nI k_e), .int (nI (10 * k_e + k3)), .int a, .int s]) (rest := []) (ce' := 0) (sl' := 0) (r := (ffE k_e (m_ff (ma_t M k_e) 11 k3 a s))) G Z ml_X8_173 (r_findField hlt hsc hS (by omega) hE 11 k3 (hg k3 (by omega)) (by omega)) (hsc.S hS).1 dX8_find_60 rfl (by decide) (by decide) (by decide) (by decide) (Nat.le_of_ble_eq_true rfl) rfl rfl rfl rfl ?_
          rcases Option.eq_none_or_eq_some (m_ff (ma_t M k_e) 11 k3 a s) with hp12 | ⟨p9, hp12⟩
          · refine jv_topI (y := (-1)) (by rw [hp12]; rfl) ?_
            refine jv_istore (q := 65) (lo' := [(7, .int (-1)), (6, .int (nI (10 * k_e + k3))), (0, .ref x), (1, .int (nI k_e)), (2, .int n), (3, .int (jv_bI b)), (4, .int a), (5, .int s)]) G dX8_find_63 (by decide) rfl rfl ?_
            refine jv_iload (q := 67) G 0 dX8_find_65 rfl rfl ?_
            refine jv_iconst (q := 68) (v := (-1)) G dX8_find_67 (by decide) rfl ?_
            refine jv_icmp_ne (q := 71) (tgt := 75) G dX8_find_68 (by decide) rfl (fun c13 => ?_) (fun c13 => ?_)
            · exact absurd rfl c13
            · refine jv_iconst (q := 72) (v := (-1)) G dX8_find_71 (by decide) rfl ?_
              refine jv_goto (q := 85) G dX8_find_72 (by decide) ?_
              refine jv_iret G hr dX8_find_85 (Nat.le_of_ble_eq_true rfl) (Nat.le_of_ble_eq_true rfl) ?_
              refine ⟨_, rfl, fun hz => ?_, (hsc.x hS 0).trans hth, hrs.tr hsc.rs⟩
              first
                | exact absurd hz (by assumption)
                | (unfold m_find; simp only [*, if_true, if_false, Bool.false_eq_true, reduceIte, Option.map_some] <;> rfl)
                | (unfold m_find; simp_all; done)
          · refine jv_topI (y := nI (6 * (10 * k_e + p9.1) + p9.2)) (by rw [hp12]; rfl) ?_
            obtain ⟨t10, ht10, m11, hm11⟩ := m_ff_mem hp12
            have Tt10 := (hE.2.2 p9.1 t10 ht10).1
            have Ot10 := (hE.2.2 p9.1 t10 ht10).2
            have Lt10 := hE.2.1
            have lt10 := jv_ltGet ht10
            have Mm11 := rt_m Tt10 hm11
            have Om11 := Ot10.2.2.2.2.2.2 m11 (List.mem_of_getElem? hm11)
            have Lm11 := Ot10.2.2.2.2.2.1
            have lm11 := jv_ltGet hm11
            have Bm11n := Om11.1; have Bm11s := Om11.2.1; have Bm11a := Om11.2.2.1; have Bt10n := Ot10.1; have Bt10k := Ot10.2.1
            refine jv_istore (q := 65) (lo' := [(7, .int (nI (6 * (10 * k_e + p9.1) + p9.2))), (6, .int (nI (10 * k_e + k3))), (0, .ref x), (1, .int (nI k_e)), (2, .int n), (3, .int (jv_bI b)), (4, .int a), (5, .int s)]) G dX8_find_63 (by decide) rfl rfl ?_
            refine jv_iload (q := 67) G 0 dX8_find_65 rfl rfl ?_
            refine jv_iconst (q := 68) (v := (-1)) G dX8_find_67 (by decide) rfl ?_
            refine jv_icmp_ne (q := 71) (tgt := 75) G dX8_find_68 (by decide) rfl (fun c14 => ?_) (fun c14 => ?_)
            · refine jv_aload_n (q := 76) G 2 dX8_find_75 rfl rfl rfl ?_
              refine jv_getQ (q := 79) G dX8_find_76 fl_X8_17 rfl (hsc.S hS).1 (rf_p4 (hsc.S hS)) rfl ?_
              refine jv_iload (q := 81) G 0 dX8_find_79 rfl rfl ?_
              refine jv_callS_I (q := 84) (h1 := h1) (As := [.int (nI (6 * (10 * k_e + p9.1) + p9.2))]) (rest := [.ref (q 4)]) (ce' := 0) (sl' := 0) (r := nI ((6 * (10 * k_e + p9.1) + p9.2) / 6)) G Z ml_X8_183 (r_typeOf hlt (by omega)) dX8_find_81 rfl (by decide) (by decide) (by decide) (by decide) (Nat.le_of_ble_eq_true rfl) rfl rfl rfl rfl ?_
              refine jv_topI (y := nI (10 * k_e + p9.1)) (congrArg nI (by omega)) ?_
              refine jv_iald (q := 85) G dX8_find_84 (rf_a4 (hsc.S hS)) rfl (by omega) (by decide) (rt_4 (hsc.T hS Tt10)) rfl ?_
              refine jv_iret G hr dX8_find_85 (Nat.le_of_ble_eq_true rfl) (Nat.le_of_ble_eq_true rfl) ?_
              refine ⟨_, rfl, fun hz => ?_, (hsc.x hS 0).trans hth, hrs.tr hsc.rs⟩
              first
                | exact absurd hz (by assumption)
                | (unfold m_find; simp only [*, if_true, if_false, Bool.false_eq_true, reduceIte, Option.map_some] <;> rfl)
                | (unfold m_find; simp_all; done)
            · exact absurd c14 (jv_nI_m1 (by omega))
        · refine jv_aload_n (q := 39) G 1 dX8_find_38 rfl rfl rfl ?_
          refine jv_iload_n (q := 40) G 2 dX8_find_39 rfl rfl rfl ?_
          refine jv_iload (q := 42) G 0 dX8_find_40 rfl rfl ?_
          refine jv_iload (q := 44) G 5 dX8_find_42 rfl rfl ?_
          refine jv_iload (q := 46) G 6 dX8_find_44 rfl rfl ?_
          refine jv_callV (q := 49) (As := [.int (nI k_e), .int (nI (10 * k_e + k3)), .int a, .int s]) (rest := []) G Z ml_X8_186 (r_findMethod (d := 11) hlt hsc hS (by omega) hE hVe ht4 (hg k3 (by omega))) (hsc.S hS).1 dX8_find_46 rfl (by decide) (by decide) (by decide) (by decide) (Nat.le_of_ble_eq_true rfl) rfl rfl (fun v16 h15 y17 => ?_) (fun _ _ hx => hx.elim)
          obtain ⟨rfl, hsc⟩ := y17
          show jv_V E 8 h15 0 0 (jv_Q E (fun v h' => ∃ r, v = some (.int r) ∧ ((m_seF M (nI k_e)) = 0 → r = m_find M (nI k_e) n b a s) ∧ jv_I h' x 0 = nI (m_seF M (nI k_e)) ∧ rs x q h h') jv_no 0 0) 49 [(6, .int (nI (10 * k_e + k3))), (0, .ref x), (1, .int (nI k_e)), (2, .int n), (3, .int (jv_bI b)), (4, .int a), (5, .int s)] [.int (ffE k_e (m_fm (ma_t M k_e) 11 k3 a s))]
          rcases Option.eq_none_or_eq_some (m_fm (ma_t M k_e) 11 k3 a s) with hp21 | ⟨p18, hp21⟩
          · refine jv_topI (y := (-1)) (by rw [hp21]; rfl) ?_
            refine jv_goto (q := 63) G dX8_find_49 (by decide) ?_
            refine jv_istore (q := 65) (lo' := [(7, .int (-1)), (6, .int (nI (10 * k_e + k3))), (0, .ref x), (1, .int (nI k_e)), (2, .int n), (3, .int (jv_bI b)), (4, .int a), (5, .int s)]) G dX8_find_63 (by decide) rfl rfl ?_
            refine jv_iload (q := 67) G 0 dX8_find_65 rfl rfl ?_
            refine jv_iconst (q := 68) (v := (-1)) G dX8_find_67 (by decide) rfl ?_
            refine jv_icmp_ne (q := 71) (tgt := 75) G dX8_find_68 (by decide) rfl (fun c22 => ?_) (fun c22 => ?_)
            · exact absurd rfl c22
            · refine jv_iconst (q := 72) (v := (-1)) G dX8_find_71 (by decide) rfl ?_
              refine jv_goto (q := 85) G dX8_find_72 (by decide) ?_
              refine jv_iret G hr dX8_find_85 (Nat.le_of_ble_eq_true rfl) (Nat.le_of_ble_eq_true rfl) ?_
              refine ⟨_, rfl, fun hz => ?_, (hsc.x hS 0).trans hth, hrs.tr hsc.rs⟩
              first
                | exact absurd hz (by assumption)
                | (unfold m_find; simp only [*, if_true, if_false, Bool.false_eq_true, reduceIte, Option.map_some] <;> rfl)
                | (unfold m_find; simp_all; done)
          · refine jv_topI (y := nI (6 * (10 * k_e + p18.1) + p18.2)) (by rw [hp21]; rfl) ?_
            obtain ⟨t19, ht19, m20, hm20⟩ := m_fm_mem hp21
            have Tt19 := (hE.2.2 p18.1 t19 ht19).1
            have Ot19 := (hE.2.2 p18.1 t19 ht19).2
            have Lt19 := hE.2.1
            have lt19 := jv_ltGet ht19
            have Mm20 := rt_m Tt19 hm20
            have Om20 := Ot19.2.2.2.2.2.2 m20 (List.mem_of_getElem? hm20)
            have Lm20 := Ot19.2.2.2.2.2.1
            have lm20 := jv_ltGet hm20
            have Bm20n := Om20.1; have Bm20s := Om20.2.1; have Bm20a := Om20.2.2.1; have Bt19n := Ot19.1; have Bt19k := Ot19.2.1
            refine jv_goto (q := 63) G dX8_find_49 (by decide) ?_
            refine jv_istore (q := 65) (lo' := [(7, .int (nI (6 * (10 * k_e + p18.1) + p18.2))), (6, .int (nI (10 * k_e + k3))), (0, .ref x), (1, .int (nI k_e)), (2, .int n), (3, .int (jv_bI b)), (4, .int a), (5, .int s)]) G dX8_find_63 (by decide) rfl rfl ?_
            refine jv_iload (q := 67) G 0 dX8_find_65 rfl rfl ?_
            refine jv_iconst (q := 68) (v := (-1)) G dX8_find_67 (by decide) rfl ?_
            refine jv_icmp_ne (q := 71) (tgt := 75) G dX8_find_68 (by decide) rfl (fun c23 => ?_) (fun c23 => ?_)
            · refine jv_aload_n (q := 76) G 2 dX8_find_75 rfl rfl rfl ?_
              refine jv_getQ (q := 79) G dX8_find_76 fl_X8_17 rfl (hsc.S hS).1 (rf_p4 (hsc.S hS)) rfl ?_
              refine jv_iload (q := 81) G 0 dX8_find_79 rfl rfl ?_
              refine jv_callS_I (q := 84) (h1 := h15) (As := [.int (nI (6 * (10 * k_e + p18.1) + p18.2))]) (rest := [.ref (q 4)]) (ce' := 0) (sl' := 0) (r := nI ((6 * (10 * k_e + p18.1) + p18.2) / 6)) G Z ml_X8_183 (r_typeOf hlt (by omega)) dX8_find_81 rfl (by decide) (by decide) (by decide) (by decide) (Nat.le_of_ble_eq_true rfl) rfl rfl rfl rfl ?_
              refine jv_topI (y := nI (10 * k_e + p18.1)) (congrArg nI (by omega)) ?_
              refine jv_iald (q := 85) G dX8_find_84 (rf_a4 (hsc.S hS)) rfl (by omega) (by decide) (rt_4 (hsc.T hS Tt19)) rfl ?_
              refine jv_iret G hr dX8_find_85 (Nat.le_of_ble_eq_true rfl) (Nat.le_of_ble_eq_true rfl) ?_
              refine ⟨_, rfl, fun hz => ?_, (hsc.x hS 0).trans hth, hrs.tr hsc.rs⟩
              first
                | exact absurd hz (by assumption)
                | (unfold m_find; simp only [*, if_true, if_false, Bool.false_eq_true, reduceIte, Option.map_some] <;> rfl)
                | (unfold m_find; simp_all; done)
            · exact absurd c23 (jv_nI_m1 (by omega))
      · exact absurd c7 (jv_nI_m1 (by omega))
  · refine jv_iconst (q := 17) (v := nI 0) G dX8_find_16 (by decide) rfl ?_
    refine jv_iret G hr dX8_find_17 (Nat.le_of_ble_eq_true rfl) (Nat.le_of_ble_eq_true rfl) ?_
    refine ⟨_, rfl, fun hz => ?_, (hsc.x hS 0).trans hth, hrs.tr hsc.rs⟩
    first
      | exact absurd hz (by assumption)
      | (unfold m_find; simp only [*, if_true, if_false, Bool.false_eq_true, reduceIte, Option.map_some] <;> rfl)
      | (unfold m_find; simp_all; done)
set_option maxHeartbeats 4000000 in
set_option maxRecDepth 100000 in
theorem r_select {lA : Launch} (hlt : lA.stackTraces = false) {D : jv_D} {base : Nat} {x : Nat} {q : Nat → Nat} {h : jv_H} {M : mA} {e n a s rc : Int32} (hR : rf_R x q h M) : jv_Met lA D base yX8_select (.code yX8_select cX8_select 10 (some .int)) 16 0 0 [.ref x, .int e, .int n, .int a, .int s, .int rc] h (fun v h' => ∃ r, v = some (.int r) ∧ ((m_seF M e) = 0 → r = m_select M e n a s rc) ∧ jv_I h' x 0 = nI (m_seF M e) ∧ rs x q h h') jv_no := by
  refine jv_ofV (lo := [(0, .ref x), (1, .int e), (2, .int n), (3, .int a), (4, .int s), (5, .int rc)]) hlt (by decide) (Nat.le_of_ble_eq_true rfl) rfl (fun E hEl hEd hEz Z G hr ht hnm => ?_)
  subst hEl; subst hEd; subst hEz
  obtain ⟨hS, ⟨hn8, hn⟩, ⟨hm12, hm⟩, hD, hV, hCs⟩ := id hR
  have hrs : rs x q h h := rs.rf
  have hsc : sc x q h h := sc.rf
  have h3 := seF_lt M e
  refine jv_aload_n (q := 1) G 0 dX8_select_0 rfl rfl rfl ?_
  refine jv_aload_n (q := 2) G 0 dX8_select_1 rfl rfl rfl ?_
  refine jv_iload_n (q := 3) G 1 dX8_select_2 rfl rfl rfl ?_
  refine jv_callV_I (q := 6) (h1 := h) (As := [.int e]) (rest := [.ref x]) (ce' := 0) (sl' := 0) (r := nI (m_seF M e)) G Z ml_X8_170 (r_sealedFault hlt hR) (hsc.S hS).1 dX8_select_3 rfl (by decide) (by decide) (by decide) (by decide) (Nat.le_of_ble_eq_true rfl) rfl rfl rfl rfl ?_
  refine jv_putI (q := 9) G dX8_select_6 fl_X8_122 rfl (hsc.S hS).1 rfl ?_
  have hr1 : rs x q h (jv_wI h x 0 (nI (m_seF M e))) := rs.rf.wI (nI (m_seF M e)) (Or.inl ⟨rfl, Or.inl rfl⟩)
  have hth : jv_I (jv_wI h x 0 (nI (m_seF M e))) x 0 = (nI (m_seF M e)) := jv_I_self _ _ _ _
  have hR := hr1.R hR
  have hrs := hrs.tr hr1
  generalize jv_wI h x 0 (nI (m_seF M e)) = h1 at hth hR hrs ⊢
  obtain ⟨hS, ⟨hn8, hn⟩, ⟨hm12, hm⟩, hD, hV, hCs⟩ := id hR
  have hsc : sc x q h1 h1 := sc.rf
  refine jv_aload_n (q := 10) G 0 dX8_select_9 rfl rfl rfl ?_
  refine jv_getI (q := 13) G dX8_select_10 fl_X8_122 rfl (hsc.S hS).1 hth rfl ?_
  refine jv_if_leN (q := 16) (tgt := 18) G dX8_select_13 (by decide) rfl (by omega) (fun c2 => ?_) (fun c2 => ?_)
  · obtain ⟨k_e, hke, eke, zke, hse⟩ := seF_0 c2 (by omega)
    subst eke
    have hE := (hD k_e (by omega)).2
    have hVe := (hV k_e (by omega) hse).1
    have hg := (hV k_e (by omega) hse).2
    have hl10 := hE.2.1
    refine jv_aload_n (q := 19) G 0 dX8_select_18 rfl rfl rfl ?_
    refine jv_iload_n (q := 20) G 1 dX8_select_19 rfl rfl rfl ?_
    refine jv_iload_n (q := 21) G 2 dX8_select_20 rfl rfl rfl ?_
    refine jv_callV_I (q := 24) (h1 := h1) (As := [.int (nI k_e), .int n]) (rest := []) (ce' := 0) (sl' := 0) (r := jv_oN ((m_at (ma_t M k_e) n).map (fun k => 10 * k_e + k))) G Z ml_X8_151 (r_at hlt (hsc.S hS) (by omega) (hsc.E hS hE)) (hsc.S hS).1 dX8_select_21 rfl (by decide) (by decide) (by decide) (by decide) (Nat.le_of_ble_eq_true rfl) rfl rfl rfl rfl ?_
    rcases Option.eq_none_or_eq_some (m_at (ma_t M k_e) n) with hk5 | ⟨k3, hk5⟩
    · refine jv_topI (y := (-1)) (by rw [hk5]; rfl) ?_
      refine jv_istore (q := 26) (lo' := [(6, .int (-1)), (0, .ref x), (1, .int (nI k_e)), (2, .int n), (3, .int a), (4, .int s), (5, .int rc)]) G dX8_select_24 (by decide) rfl rfl ?_
      refine jv_aload_n (q := 27) G 1 dX8_select_26 rfl rfl rfl ?_
      refine jv_iload_n (q := 28) G 2 dX8_select_27 rfl rfl rfl ?_
      refine jv_iload (q := 30) G 6 dX8_select_28 rfl rfl ?_
      refine jv_callV_I (q := 33) (h1 := h1) (As := [.int (nI k_e), .int rc]) (rest := []) (ce' := 0) (sl' := 0) (r := jv_oN ((m_at (ma_t M k_e) rc).map (fun k => 10 * k_e + k))) G Z ml_X8_151 (r_at hlt (hsc.S hS) (by omega) (hsc.E hS hE)) (hsc.S hS).1 dX8_select_30 rfl (by decide) (by decide) (by decide) (by decide) (Nat.le_of_ble_eq_true rfl) rfl rfl rfl rfl ?_
      rcases Option.eq_none_or_eq_some (m_at (ma_t M k_e) rc) with hk8 | ⟨k6, hk8⟩
      · refine jv_topI (y := (-1)) (by rw [hk8]; rfl) ?_
        refine jv_istore (q := 35) (lo' := [(7, .int (-1)), (6, .int (-1)), (0, .ref x), (1, .int (nI k_e)), (2, .int n), (3, .int a), (4, .int s), (5, .int rc)]) G dX8_select_33 (by decide) rfl rfl ?_
        refine jv_iload (q := 37) G 1 dX8_select_35 rfl rfl ?_
        refine jv_iconst (q := 38) (v := (-1)) G dX8_select_37 (by decide) rfl ?_
        refine jv_icmp_ne (q := 41) (tgt := 45) G dX8_select_38 (by decide) rfl (fun c9 => ?_) (fun c9 => ?_)
        · exact absurd rfl c9
        · refine jv_iconst (q := 42) (v := (-1)) G dX8_select_41 (by decide) rfl ?_
          refine jv_goto (q := 55) G dX8_select_42 (by decide) ?_
          refine jv_istore (q := 57) (lo' := [(8, .int (-1)), (7, .int (-1)), (6, .int (-1)), (0, .ref x), (1, .int (nI k_e)), (2, .int n), (3, .int a), (4, .int s), (5, .int rc)]) G dX8_select_55 (by decide) rfl rfl ?_
          refine jv_iload (q := 59) G 0 dX8_select_57 rfl rfl ?_
          refine jv_iconst (q := 60) (v := (-1)) G dX8_select_59 (by decide) rfl ?_
          refine jv_icmp_eq (q := 63) (tgt := 79) G dX8_select_60 (by decide) rfl (fun c10 => ?_) (fun c10 => ?_)
          · refine jv_iconst (q := 80) (v := (-1)) G dX8_select_79 (by decide) rfl ?_
            refine jv_iret G hr dX8_select_80 (Nat.le_of_ble_eq_true rfl) (Nat.le_of_ble_eq_true rfl) ?_
            refine ⟨_, rfl, fun hz => ?_, (hsc.x hS 0).trans hth, hrs.tr hsc.rs⟩
            first
              | exact absurd hz (by assumption)
              | (unfold m_select; simp only [*, if_true, if_false, Bool.false_eq_true, reduceIte, Option.map_some] <;> rfl)
              | (unfold m_select; simp_all; done)
          · exact absurd rfl c10
      · refine jv_topI (y := nI (10 * k_e + k6)) (by rw [hk8]; rfl) ?_
        obtain ⟨t7, ht7, nt7, lt7⟩ := m_at_some hk8
        have Tt7 := (hE.2.2 k6 t7 ht7).1
        have Ot7 := (hE.2.2 k6 t7 ht7).2
        have Lt7 := hE.2.1
        have Bt7n := Ot7.1; have Bt7k := Ot7.2.1
        refine jv_istore (q := 35) (lo' := [(7, .int (nI (10 * k_e + k6))), (6, .int (-1)), (0, .ref x), (1, .int (nI k_e)), (2, .int n), (3, .int a), (4, .int s), (5, .int rc)]) G dX8_select_33 (by decide) rfl rfl ?_
        refine jv_iload (q := 37) G 1 dX8_select_35 rfl rfl ?_
        refine jv_iconst (q := 38) (v := (-1)) G dX8_select_37 (by decide) rfl ?_
        refine jv_icmp_ne (q := 41) (tgt := 45) G dX8_select_38 (by decide) rfl (fun c11 => ?_) (fun c11 => ?_)
        · exact absurd rfl c11
        · refine jv_iconst (q := 42) (v := (-1)) G dX8_select_41 (by decide) rfl ?_
          refine jv_goto (q := 55) G dX8_select_42 (by decide) ?_
          refine jv_istore (q := 57) (lo' := [(8, .int (-1)), (7, .int (nI (10 * k_e + k6))), (6, .int (-1)), (0, .ref x), (1, .int (nI k_e)), (2, .int n), (3, .int a), (4, .int s), (5, .int rc)]) G dX8_select_55 (by decide) rfl rfl ?_
          refine jv_iload (q := 59) G 0 dX8_select_57 rfl rfl ?_
          refine jv_iconst (q := 60) (v := (-1)) G dX8_select_59 (by decide) rfl ?_
          refine jv_icmp_eq (q := 63) (tgt := 79) G dX8_select_60 (by decide) rfl (fun c12 => ?_) (fun c12 => ?_)
          · refine jv_iconst (q := 80) (v := (-1)) G dX8_select_79 (by decide) rfl ?_
            refine jv_iret G hr dX8_select_80 (Nat.le_of_ble_eq_true rfl) (Nat.le_of_ble_eq_true rfl) ?_
            refine ⟨_, rfl, fun hz => ?_, (hsc.x hS 0).trans hth, hrs.tr hsc.rs⟩
            first
              | exact absurd hz (by assumption)
              | (unfold m_select; simp only [*, if_true, if_false, Bool.false_eq_true, reduceIte, Option.map_some] <;> rfl)
              | (unfold m_select; simp_all; done)
          · exact absurd rfl c12
    · refine jv_topI (y := nI (10 * k_e + k3)) (by rw [hk5]; rfl) ?_
      obtain ⟨t4, ht4, nt4, lt4⟩ := m_at_some hk5
      have Tt4 := (hE.2.2 k3 t4 ht4).1
      have Ot4 := (hE.2.2 k3 t4 ht4).2
      have Lt4 := hE.2.1
      have Bt4n := Ot4.1; have Bt4k := Ot4.2.1
      refine jv_istore (q := 26) (lo' := [(6, .int (nI (10 * k_e + k3))), (0, .ref x), (1, .int (nI k_e)), (2, .int n), (3, .int a), (4, .int s), (5, .int rc)]) G dX8_select_24 (by decide) rfl rfl ?_
      refine jv_aload_n (q := 27) G 1 dX8_select_26 rfl rfl rfl ?_
      refine jv_iload_n (q := 28) G 2 dX8_select_27 rfl rfl rfl ?_
      refine jv_iload (q := 30) G 6 dX8_select_28 rfl rfl ?_
      refine jv_callV_I (q := 33) (h1 := h1) (As := [.int (nI k_e), .int rc]) (rest := []) (ce' := 0) (sl' := 0) (r := jv_oN ((m_at (ma_t M k_e) rc).map (fun k => 10 * k_e + k))) G Z ml_X8_151 (r_at hlt (hsc.S hS) (by omega) (hsc.E hS hE)) (hsc.S hS).1 dX8_select_30 rfl (by decide) (by decide) (by decide) (by decide) (Nat.le_of_ble_eq_true rfl) rfl rfl rfl rfl ?_
      rcases Option.eq_none_or_eq_some (m_at (ma_t M k_e) rc) with hk15 | ⟨k13, hk15⟩
      · refine jv_topI (y := (-1)) (by rw [hk15]; rfl) ?_
        refine jv_istore (q := 35) (lo' := [(7, .int (-1)), (6, .int (nI (10 * k_e + k3))), (0, .ref x), (1, .int (nI k_e)), (2, .int n), (3, .int a), (4, .int s), (5, .int rc)]) G dX8_select_33 (by decide) rfl rfl ?_
        refine jv_iload (q := 37) G 1 dX8_select_35 rfl rfl ?_
        refine jv_iconst (q := 38) (v := (-1)) G dX8_select_37 (by decide) rfl ?_
        refine jv_icmp_ne (q := 41) (tgt := 45) G dX8_select_38 (by decide) rfl (fun c16 => ?_) (fun c16 => ?_)
        · refine jv_aload_n (q := 46) G 2 dX8_select_45 rfl rfl rfl ?_
          refine jv_iload (q := 48) G 1 dX8_select_46 rfl rfl ?_
          refine jv_iconst (q := 49) (v := nI 1) G dX8_select_48 (by decide) rfl ?_
          refine jv_iload_n (q := 50) G 5 dX8_select_49 rfl rfl rfl ?_
          refine jv_iload (q := 52) G 6 dX8_select_50 rfl rfl ?_
          refine jv_callV_I (q := 55) (h1 := h1) (As := [.int (nI (10 * k_e + k3)), .int (nI 1), .int a, .int s]) (rest := []) (ce' := 0) (sl' := 0) (r := jv_oN ((m_own t4 (nI 1) a s).map (fun j => 6 * (10 * k_e + k3) + j))) G Z ml_X8_155 (r_own hlt (hsc.S hS) (by omega) (hsc.T hS Tt4) Ot4) (hsc.S hS).1 dX8_select_52 rfl (by decide) (by decide) (by decide) (by decide) (Nat.le_of_ble_eq_true rfl) rfl rfl rfl rfl ?_
          rcases Option.eq_none_or_eq_some (m_own t4 (nI 1) a s) with hj19 | ⟨j17, hj19⟩
          · refine jv_topI (y := (-1)) (by rw [hj19]; rfl) ?_
            refine jv_istore (q := 57) (lo' := [(8, .int (-1)), (7, .int (-1)), (6, .int (nI (10 * k_e + k3))), (0, .ref x), (1, .int (nI k_e)), (2, .int n), (3, .int a), (4, .int s), (5, .int rc)]) G dX8_select_55 (by decide) rfl rfl ?_
            refine jv_iload (q := 59) G 0 dX8_select_57 rfl rfl ?_
            refine jv_iconst (q := 60) (v := (-1)) G dX8_select_59 (by decide) rfl ?_
            refine jv_icmp_eq (q := 63) (tgt := 79) G dX8_select_60 (by decide) rfl (fun c20 => ?_) (fun c20 => ?_)
            · refine jv_iconst (q := 80) (v := (-1)) G dX8_select_79 (by decide) rfl ?_
              refine jv_iret G hr dX8_select_80 (Nat.le_of_ble_eq_true rfl) (Nat.le_of_ble_eq_true rfl) ?_
              refine ⟨_, rfl, fun hz => ?_, (hsc.x hS 0).trans hth, hrs.tr hsc.rs⟩
              first
                | exact absurd hz (by assumption)
                | (unfold m_select; simp only [*, if_true, if_false, Bool.false_eq_true, reduceIte, Option.map_some] <;> rfl)
                | (unfold m_select; simp_all; done)
            · exact absurd rfl c20
          · refine jv_topI (y := nI (6 * (10 * k_e + k3) + j17)) (by rw [hj19]; rfl) ?_
            obtain ⟨m18, hm18, wm18, nm18, sm18, lm18⟩ := m_own_some hj19
            have Mm18 := rt_m Tt4 hm18
            have Om18 := Ot4.2.2.2.2.2.2 m18 (List.mem_of_getElem? hm18)
            have Lm18 := Ot4.2.2.2.2.2.1
            have Bm18n := Om18.1; have Bm18s := Om18.2.1; have Bm18a := Om18.2.2.1
            refine jv_istore (q := 57) (lo' := [(8, .int (nI (6 * (10 * k_e + k3) + j17))), (7, .int (-1)), (6, .int (nI (10 * k_e + k3))), (0, .ref x), (1, .int (nI k_e)), (2, .int n), (3, .int a), (4, .int s), (5, .int rc)]) G dX8_select_55 (by decide) rfl rfl ?_
            refine jv_iload (q := 59) G 0 dX8_select_57 rfl rfl ?_
            refine jv_iconst (q := 60) (v := (-1)) G dX8_select_59 (by decide) rfl ?_
            refine jv_icmp_eq (q := 63) (tgt := 79) G dX8_select_60 (by decide) rfl (fun c21 => ?_) (fun c21 => ?_)
            · exact absurd c21 (jv_nI_m1 (by omega))
            · refine jv_iload (q := 65) G 1 dX8_select_63 rfl rfl ?_
              refine jv_iconst (q := 66) (v := (-1)) G dX8_select_65 (by decide) rfl ?_
              refine jv_icmp_eq (q := 69) (tgt := 79) G dX8_select_66 (by decide) rfl (fun c22 => ?_) (fun c22 => ?_)
              · refine jv_iconst (q := 80) (v := (-1)) G dX8_select_79 (by decide) rfl ?_
                refine jv_iret G hr dX8_select_80 (Nat.le_of_ble_eq_true rfl) (Nat.le_of_ble_eq_true rfl) ?_
                refine ⟨_, rfl, fun hz => ?_, (hsc.x hS 0).trans hth, hrs.tr hsc.rs⟩
                first
                  | exact absurd hz (by assumption)
                  | (unfold m_select; simp only [*, if_true, if_false, Bool.false_eq_true, reduceIte, Option.map_some] <;> rfl)
                  | (unfold m_select; simp_all; done)
              · exact absurd rfl c22
        · exact absurd c16 (jv_nI_m1 (by omega))
      · refine jv_topI (y := nI (10 * k_e + k13)) (by rw [hk15]; rfl) ?_
        obtain ⟨t14, ht14, nt14, lt14⟩ := m_at_some hk15
        have Tt14 := (hE.2.2 k13 t14 ht14).1
        have Ot14 := (hE.2.2 k13 t14 ht14).2
        have Lt14 := hE.2.1
        have Bt14n := Ot14.1; have Bt14k := Ot14.2.1
        refine jv_istore (q := 35) (lo' := [(7, .int (nI (10 * k_e + k13))), (6, .int (nI (10 * k_e + k3))), (0, .ref x), (1, .int (nI k_e)), (2, .int n), (3, .int a), (4, .int s), (5, .int rc)]) G dX8_select_33 (by decide) rfl rfl ?_
        refine jv_iload (q := 37) G 1 dX8_select_35 rfl rfl ?_
        refine jv_iconst (q := 38) (v := (-1)) G dX8_select_37 (by decide) rfl ?_
        refine jv_icmp_ne (q := 41) (tgt := 45) G dX8_select_38 (by decide) rfl (fun c23 => ?_) (fun c23 => ?_)
        · refine jv_aload_n (q := 46) G 2 dX8_select_45 rfl rfl rfl ?_
          refine jv_iload (q := 48) G 1 dX8_select_46 rfl rfl ?_
          refine jv_iconst (q := 49) (v := nI 1) G dX8_select_48 (by decide) rfl ?_
          refine jv_iload_n (q := 50) G 5 dX8_select_49 rfl rfl rfl ?_
          refine jv_iload (q := 52) G 6 dX8_select_50 rfl rfl ?_
          refine jv_callV_I (q := 55) (h1 := h1) (As := [.int (nI (10 * k_e + k3)), .int (nI 1), .int a, .int s]) (rest := []) (ce' := 0) (sl' := 0) (r := jv_oN ((m_own t4 (nI 1) a s).map (fun j => 6 * (10 * k_e + k3) + j))) G Z ml_X8_155 (r_own hlt (hsc.S hS) (by omega) (hsc.T hS Tt4) Ot4) (hsc.S hS).1 dX8_select_52 rfl (by decide) (by decide) (by decide) (by decide) (Nat.le_of_ble_eq_true rfl) rfl rfl rfl rfl ?_
          rcases Option.eq_none_or_eq_some (m_own t4 (nI 1) a s) with hj26 | ⟨j24, hj26⟩
          · refine jv_topI (y := (-1)) (by rw [hj26]; rfl) ?_
            refine jv_istore (q := 57) (lo' := [(8, .int (-1)), (7, .int (nI (10 * k_e + k13))), (6, .int (nI (10 * k_e + k3))), (0, .ref x), (1, .int (nI k_e)), (2, .int n), (3, .int a), (4, .int s), (5, .int rc)]) G dX8_select_55 (by decide) rfl rfl ?_
            refine jv_iload (q := 59) G 0 dX8_select_57 rfl rfl ?_
            refine jv_iconst (q := 60) (v := (-1)) G dX8_select_59 (by decide) rfl ?_
            refine jv_icmp_eq (q := 63) (tgt := 79) G dX8_select_60 (by decide) rfl (fun c27 => ?_) (fun c27 => ?_)
            · refine jv_iconst (q := 80) (v := (-1)) G dX8_select_79 (by decide) rfl ?_
              refine jv_iret G hr dX8_select_80 (Nat.le_of_ble_eq_true rfl) (Nat.le_of_ble_eq_true rfl) ?_
              refine ⟨_, rfl, fun hz => ?_, (hsc.x hS 0).trans hth, hrs.tr hsc.rs⟩
              first
                | exact absurd hz (by assumption)
                | (unfold m_select; simp only [*, if_true, if_false, Bool.false_eq_true, reduceIte, Option.map_some] <;> rfl)
                | (unfold m_select; simp_all; done)
            · exact absurd rfl c27
          · refine jv_topI (y := nI (6 * (10 * k_e + k3) + j24)) (by rw [hj26]; rfl) ?_
            obtain ⟨m25, hm25, wm25, nm25, sm25, lm25⟩ := m_own_some hj26
            have Mm25 := rt_m Tt4 hm25
            have Om25 := Ot4.2.2.2.2.2.2 m25 (List.mem_of_getElem? hm25)
            have Lm25 := Ot4.2.2.2.2.2.1
            have Bm25n := Om25.1; have Bm25s := Om25.2.1; have Bm25a := Om25.2.2.1
            refine jv_istore (q := 57) (lo' := [(8, .int (nI (6 * (10 * k_e + k3) + j24))), (7, .int (nI (10 * k_e + k13))), (6, .int (nI (10 * k_e + k3))), (0, .ref x), (1, .int (nI k_e)), (2, .int n), (3, .int a), (4, .int s), (5, .int rc)]) G dX8_select_55 (by decide) rfl rfl ?_
            refine jv_iload (q := 59) G 0 dX8_select_57 rfl rfl ?_
            refine jv_iconst (q := 60) (v := (-1)) G dX8_select_59 (by decide) rfl ?_
            refine jv_icmp_eq (q := 63) (tgt := 79) G dX8_select_60 (by decide) rfl (fun c28 => ?_) (fun c28 => ?_)
            · exact absurd c28 (jv_nI_m1 (by omega))
            · refine jv_iload (q := 65) G 1 dX8_select_63 rfl rfl ?_
              refine jv_iconst (q := 66) (v := (-1)) G dX8_select_65 (by decide) rfl ?_
              refine jv_icmp_eq (q := 69) (tgt := 79) G dX8_select_66 (by decide) rfl (fun c29 => ?_) (fun c29 => ?_)
              · exact absurd c29 (jv_nI_m1 (by omega))
              · refine jv_aload_n (q := 70) G 3 dX8_select_69 rfl rfl rfl ?_
                refine jv_getQ (q := 73) G dX8_select_70 fl_X8_20 rfl (hsc.S hS).1 (rf_p5 (hsc.S hS)) rfl ?_
                refine jv_iload (q := 75) G 1 dX8_select_73 rfl rfl ?_
                refine jv_zald (q := 76) G dX8_select_75 (rf_a5 (hsc.S hS)) rfl (by omega) (by decide) (rt_5 (hsc.T hS Tt14)) rfl ?_
                refine jv_if_eqB (q := 79) (tgt := 81) G dX8_select_76 (by decide) rfl (fun c30 => ?_) (fun c30 => ?_)
                · refine jv_aload_n (q := 82) G 3 dX8_select_81 rfl rfl rfl ?_
                  refine jv_iload_n (q := 83) G 4 dX8_select_82 rfl rfl rfl ?_
                  refine jv_iload (q := 85) G 0 dX8_select_83 rfl rfl ?_
                  refine jv_iload (q := 87) G 1 dX8_select_85 rfl rfl ?_
                  refine jv_callV (q := 90) (As := [.int (nI k_e), .int (nI (6 * (10 * k_e + k3) + j24)), .int (nI (10 * k_e + k13))]) (rest := []) G Z ml_X8_189 (r_selected (d := 11) hlt hsc hS (by omega) hE hVe ht4 hm25 ht14 (hg k13 (by omega))) (hsc.S hS).1 dX8_select_87 rfl (by decide) (by decide) (by decide) (by decide) (Nat.le_of_ble_eq_true rfl) rfl rfl (fun v32 h31 y33 => ?_) (fun _ _ hx => hx.elim)
                  obtain ⟨rfl, hsc⟩ := y33
                  show jv_V E 10 h31 0 0 (jv_Q E (fun v h' => ∃ r, v = some (.int r) ∧ ((m_seF M (nI k_e)) = 0 → r = m_select M (nI k_e) n a s rc) ∧ jv_I h' x 0 = nI (m_seF M (nI k_e)) ∧ rs x q h h') jv_no 0 0) 90 [(8, .int (nI (6 * (10 * k_e + k3) + j24))), (7, .int (nI (10 * k_e + k13))), (6, .int (nI (10 * k_e + k3))), (0, .ref x), (1, .int (nI k_e)), (2, .int n), (3, .int a), (4, .int s), (5, .int rc)] [.int (ffE k_e (m_sl (ma_t M k_e) 11 t4 m25 k3 j24 k13))]
                  rcases Option.eq_none_or_eq_some (m_sl (ma_t M k_e) 11 t4 m25 k3 j24 k13) with hp37 | ⟨p34, hp37⟩
                  · refine jv_topI (y := (-1)) (by rw [hp37]; rfl) ?_
                    refine jv_istore (q := 92) (lo' := [(9, .int (-1)), (8, .int (nI (6 * (10 * k_e + k3) + j24))), (7, .int (nI (10 * k_e + k13))), (6, .int (nI (10 * k_e + k3))), (0, .ref x), (1, .int (nI k_e)), (2, .int n), (3, .int a), (4, .int s), (5, .int rc)]) G dX8_select_90 (by decide) rfl rfl ?_
                    refine jv_iload (q := 94) G 0 dX8_select_92 rfl rfl ?_
                    refine jv_iconst (q := 95) (v := (-1)) G dX8_select_94 (by decide) rfl ?_
                    refine jv_icmp_ne (q := 98) (tgt := 102) G dX8_select_95 (by decide) rfl (fun c38 => ?_) (fun c38 => ?_)
                    · exact absurd rfl c38
                    · refine jv_iconst (q := 99) (v := (-1)) G dX8_select_98 (by decide) rfl ?_
                      refine jv_goto (q := 112) G dX8_select_99 (by decide) ?_
                      refine jv_iret G hr dX8_select_112 (Nat.le_of_ble_eq_true rfl) (Nat.le_of_ble_eq_true rfl) ?_
                      refine ⟨_, rfl, fun hz => ?_, (hsc.x hS 0).trans hth, hrs.tr hsc.rs⟩
                      first
                        | exact absurd hz (by assumption)
                        | (unfold m_select; simp only [*, if_true, if_false, Bool.false_eq_true, reduceIte, Option.map_some] <;> rfl)
                        | (unfold m_select; simp_all; done)
                  · refine jv_topI (y := nI (6 * (10 * k_e + p34.1) + p34.2)) (by rw [hp37]; rfl) ?_
                    obtain ⟨t35, ht35, m36, hm36⟩ := m_sl_mem ht4 hm25 hp37
                    have Tt35 := (hE.2.2 p34.1 t35 ht35).1
                    have Ot35 := (hE.2.2 p34.1 t35 ht35).2
                    have Lt35 := hE.2.1
                    have lt35 := jv_ltGet ht35
                    have Mm36 := rt_m Tt35 hm36
                    have Om36 := Ot35.2.2.2.2.2.2 m36 (List.mem_of_getElem? hm36)
                    have Lm36 := Ot35.2.2.2.2.2.1
                    have lm36 := jv_ltGet hm36
                    have Bm36n := Om36.1; have Bm36s := Om36.2.1; have Bm36a := Om36.2.2.1; have Bt35n := Ot35.1; have Bt35k := Ot35.2.1
                    refine jv_istore (q := 92) (lo' := [(9, .int (nI (6 * (10 * k_e + p34.1) + p34.2))), (8, .int (nI (6 * (10 * k_e + k3) + j24))), (7, .int (nI (10 * k_e + k13))), (6, .int (nI (10 * k_e + k3))), (0, .ref x), (1, .int (nI k_e)), (2, .int n), (3, .int a), (4, .int s), (5, .int rc)]) G dX8_select_90 (by decide) rfl rfl ?_
                    refine jv_iload (q := 94) G 0 dX8_select_92 rfl rfl ?_
                    refine jv_iconst (q := 95) (v := (-1)) G dX8_select_94 (by decide) rfl ?_
                    refine jv_icmp_ne (q := 98) (tgt := 102) G dX8_select_95 (by decide) rfl (fun c39 => ?_) (fun c39 => ?_)
                    · refine jv_aload_n (q := 103) G 4 dX8_select_102 rfl rfl rfl ?_
                      refine jv_getQ (q := 106) G dX8_select_103 fl_X8_17 rfl (hsc.S hS).1 (rf_p4 (hsc.S hS)) rfl ?_
                      refine jv_iload (q := 108) G 0 dX8_select_106 rfl rfl ?_
                      refine jv_callS_I (q := 111) (h1 := h31) (As := [.int (nI (6 * (10 * k_e + p34.1) + p34.2))]) (rest := [.ref (q 4)]) (ce' := 0) (sl' := 0) (r := nI ((6 * (10 * k_e + p34.1) + p34.2) / 6)) G Z ml_X8_183 (r_typeOf hlt (by omega)) dX8_select_108 rfl (by decide) (by decide) (by decide) (by decide) (Nat.le_of_ble_eq_true rfl) rfl rfl rfl rfl ?_
                      refine jv_topI (y := nI (10 * k_e + p34.1)) (congrArg nI (by omega)) ?_
                      refine jv_iald (q := 112) G dX8_select_111 (rf_a4 (hsc.S hS)) rfl (by omega) (by decide) (rt_4 (hsc.T hS Tt35)) rfl ?_
                      refine jv_iret G hr dX8_select_112 (Nat.le_of_ble_eq_true rfl) (Nat.le_of_ble_eq_true rfl) ?_
                      refine ⟨_, rfl, fun hz => ?_, (hsc.x hS 0).trans hth, hrs.tr hsc.rs⟩
                      first
                        | exact absurd hz (by assumption)
                        | (unfold m_select; simp only [*, if_true, if_false, Bool.false_eq_true, reduceIte, Option.map_some] <;> rfl)
                        | (unfold m_select; simp_all; done)
                    · exact absurd c39 (jv_nI_m1 (by omega))
                · refine jv_iconst (q := 80) (v := (-1)) G dX8_select_79 (by decide) rfl ?_
                  refine jv_iret G hr dX8_select_80 (Nat.le_of_ble_eq_true rfl) (Nat.le_of_ble_eq_true rfl) ?_
                  refine ⟨_, rfl, fun hz => ?_, (hsc.x hS 0).trans hth, hrs.tr hsc.rs⟩
                  first
                    | exact absurd hz (by assumption)
                    | (unfold m_select; simp only [*, if_true, if_false, Bool.false_eq_true, reduceIte, Option.map_some] <;> rfl)
                    | (unfold m_select; simp_all; done)
        · exact absurd c23 (jv_nI_m1 (by omega))
  · refine jv_iconst (q := 17) (v := nI 0) G dX8_select_16 (by decide) rfl ?_
    refine jv_iret G hr dX8_select_17 (Nat.le_of_ble_eq_true rfl) (Nat.le_of_ble_eq_true rfl) ?_
    refine ⟨_, rfl, fun hz => ?_, (hsc.x hS 0).trans hth, hrs.tr hsc.rs⟩
    first
      | exact absurd hz (by assumption)
      | (unfold m_select; simp only [*, if_true, if_false, Bool.false_eq_true, reduceIte, Option.map_some] <;> rfl)
      | (unfold m_select; simp_all; done)
