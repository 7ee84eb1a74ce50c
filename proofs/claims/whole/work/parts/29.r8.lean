theorem m_own_mem {t : mT} {w n s : Int32} {j : Nat} (h : m_own t w n s = some j) : ∃ m, (mt_m t)[j]? = some m := (m_own_some h).imp (fun _ z => z.1)
theorem m_ff_mem {ts : List mT} {n s : Int32} {d k : Nat} {p : Nat × Nat} (h : m_ff ts d k n s = some p) : ∃ t, ts[p.1]? = some t ∧ ∃ m, (mt_m t)[p.2]? = some m := by
  obtain ⟨t, h1, h2⟩ := m_ff_some h
  exact ⟨t, h1, m_own_mem h2⟩
theorem m_nr_own {ts : List mT} {n s : Int32} : ∀ {d k : Nat} {p : Nat × Nat}, m_nr ts d k n s = some p → ∃ t, ts[p.1]? = some t ∧ m_own t (nI 1) n s = some p.2
  | 0, k, p, h => by cases h
  | d + 1, k, p, h => by
    rw [m_nr] at h
    cases hk : ts[k]? with
    | none => rw [hk] at h; cases h
    | some t =>
      rw [hk] at h
      dsimp only at h
      cases ho : m_own t (nI 1) n s with
      | some j => rw [ho] at h; cases h; exact ⟨t, hk, ho⟩
      | none =>
        rw [ho] at h
        dsimp only at h
        cases hu : mt_u t with
        | none => rw [hu] at h; cases h
        | some u =>
          rw [hu] at h
          dsimp only [Option.bind_some] at h
          cases ha : m_at ts (nI u) with
          | none => rw [ha] at h; cases h
          | some k' => rw [ha] at h; exact m_nr_own h
theorem m_ob_own {ts : List mT} {n s : Int32} {cd : Nat → Bool} {k : Nat} (h : m_ob ts n s cd k = true) : ∃ t, ts[k]? = some t ∧ m_own t (nI 1) n s = some (m_ix ts n s k) := by
  unfold m_ob at h
  cases hk : ts[k]? with
  | none => simp [hk] at h
  | some t =>
    cases ho : m_own t (nI 1) n s with
    | none => simp [hk, ho] at h
    | some j => exact ⟨t, rfl, by rw [m_ix_of hk ho, ho]⟩
theorem m_only_own {ts : List mT} {n s : Int32} {cd : Nat → Bool} {k : Nat} (h : m_only (m_ob ts n s cd) ts.length = some k) : ∃ t, ts[k]? = some t ∧ m_own t (nI 1) n s = some (m_ix ts n s k) := by
  unfold m_only at h
  split at h
  · exact m_ob_own (m_last_lt h).2
  · cases h
theorem m_cd_own {ts : List mT} {tn : Nat} {n s : Int32} {k : Nat} (h : m_cd ts tn n s k = true) : ∃ t, ts[k]? = some t ∧ m_own t (nI 1) n s = some (m_ix ts n s k) := by
  cases hk : ts[k]? with
  | none => unfold m_cd m_c0 at h; rw [hk] at h; simp at h
  | some t =>
    obtain ⟨j, hj⟩ := m_c0_own h hk
    exact ⟨t, rfl, by rw [m_ix_of hk hj, hj]⟩
theorem m_fm_own {ts : List mT} {n s : Int32} {d k : Nat} {p : Nat × Nat} (h : m_fm ts d k n s = some p) : ∃ t, ts[p.1]? = some t ∧ m_own t (nI 1) n s = some p.2 := by
  unfold m_fm at h
  cases hk : ts[k]? with
  | none => rw [hk] at h; cases h
  | some t =>
    rw [hk] at h
    dsimp only at h
    cases hn : m_nr ts d k n s with
    | some r => rw [hn] at h; cases h; exact m_nr_own hn
    | none =>
      rw [hn] at h
      dsimp only [Option.none_or] at h
      unfold m_rs at h
      split at h
      · cases h
      · split at h
        · cases h; rename_i k1 ho; exact m_only_own ho
        · cases hs : sf (m_cd ts (mt_n t) n s) ts.length 0 with
          | none => rw [hs] at h; cases h
          | some k1 => rw [hs] at h; cases h; exact m_cd_own (sf_some hs).2.2.1
theorem m_fm_mem {ts : List mT} {n s : Int32} {d k : Nat} {p : Nat × Nat} (h : m_fm ts d k n s = some p) : ∃ t, ts[p.1]? = some t ∧ ∃ m, (mt_m t)[p.2]? = some m := by
  obtain ⟨t, h1, h2⟩ := m_fm_own h
  exact ⟨t, h1, m_own_mem h2⟩
theorem m_scn_mem {ts : List mT} {td : mT} {md : mM} {kd jd : Nat} : ∀ {d k : Nat} {p : Nat × Nat}, m_scn ts td md kd jd d k = some p → ∃ t, ts[p.1]? = some t ∧ ∃ m, (mt_m t)[p.2]? = some m
  | 0, k, p, h => by cases h
  | d + 1, k, p, h => by
    rw [m_scn] at h
    cases hk : ts[k]? with
    | none => rw [hk] at h; cases h
    | some t =>
      rw [hk] at h
      dsimp only at h
      rcases Option.or_eq_some_iff.mp h with h1 | ⟨-, h1⟩
      · cases ho : m_own t (nI 1) (nI (mm_n md)) (nI (mm_s md)) with
        | none => rw [ho] at h1; cases h1
        | some j =>
          rw [ho] at h1
          dsimp only at h1
          cases hm : (mt_m t)[j]? with
          | none => rw [hm] at h1; cases h1
          | some mo =>
            rw [hm] at h1
            dsimp only at h1
            split at h1
            · cases h1; exact ⟨t, hk, mo, hm⟩
            · cases h1
      · cases hu : mt_u t with
        | none => rw [hu] at h1; cases h1
        | some u =>
          rw [hu] at h1
          dsimp only [Option.bind_some] at h1
          cases ha : m_at ts (nI u) with
          | none => rw [ha] at h1; cases h1
          | some k' => rw [ha] at h1; exact m_scn_mem h1
theorem m_sl_mem {ts : List mT} {td : mT} {md : mM} {kd jd d kr : Nat} {p : Nat × Nat} (hkd : ts[kd]? = some td) (hjd : (mt_m td)[jd]? = some md) (h : m_sl ts d td md kd jd kr = some p) : ∃ t, ts[p.1]? = some t ∧ ∃ m, (mt_m t)[p.2]? = some m := by
  unfold m_sl at h
  cases hk : ts[kr]? with
  | none => rw [hk] at h; cases h
  | some t =>
    rw [hk] at h
    dsimp only at h
    split at h
    · cases h; exact ⟨td, hkd, md, hjd⟩
    · rcases Option.or_eq_some_iff.mp h with h1 | ⟨-, h1⟩
      · exact m_scn_mem h1
      · unfold m_sr at h1
        split at h1
        · cases h1
        · cases ho : m_only (m_ob ts (nI (mm_n md)) (nI (mm_s md)) (m_cd ts (mt_n t) (nI (mm_n md)) (nI (mm_s md)))) ts.length with
          | none => rw [ho] at h1; cases h1
          | some k1 =>
            rw [ho] at h1; cases h1
            obtain ⟨t2, h2, h3⟩ := m_only_own ho
            exact ⟨t2, h2, m_own_mem h3⟩
/-- whether a caller of package pk and super su may touch the member md of td -/
def m_mr (ts : List mT) (pk : Nat) (su : Option Nat) (td : mT) (md : mM) : Bool := if mm_a md = 3 then true else if mm_a md = 0 then false else if mt_k td = pk then true else if mm_a md = 1 then false else match su with
  | none => false
  | some u => (m_at ts (nI u)).isSome && (decide (u = mt_n td) || m_isA ts (nI (mt_n td)) (nI u))
set_option maxHeartbeats 4000000 in
set_option maxRecDepth 100000 in
theorem r_mayReach {lA : Launch} (hlt : lA.stackTraces = false) {D : jv_D} {base : Nat} {x : Nat} {q : Nat → Nat} {h0 h : jv_H} {c e kd jd pk : Nat} {su : Option Nat} {ts : List mT} {td : mT} {md : mM} (hsc : sc x q h0 h) (hS : rf_S x q h0) (hc : c < 13) (he : e < 8) (hE : rf_E q h0 e ts) (hV : rf_V q h0 e ts) (hkd : ts[kd]? = some td) (hjd : (mt_m td)[jd]? = some md) (hpk : jv_I h0 (q 23) c = nI pk) (hpk5 : pk < 5) (hsu : jv_I h0 (q 24) c = jv_oN su) (hsu16 : ∀ u, su = some u → u < 16) : jv_Met lA D base yX8_mayReach (.code yX8_mayReach cX8_mayReach 5 (some .boolean)) 3 0 0 [.ref x, .int (nI c), .int (nI e), .int (nI (6 * (10 * e + kd) + jd))] h (jv_rI (jv_bI (m_mr ts pk su td md)) h) jv_no := by
  refine jv_ofV (lo := [(0, .ref x), (1, .int (nI c)), (2, .int (nI e)), (3, .int (nI (6 * (10 * e + kd) + jd)))]) hlt (by decide) (Nat.le_of_ble_eq_true rfl) rfl (fun E hEl hEd hEz Z G hr ht hnm => ?_)
  subst hEl; subst hEd; subst hEz
  have hlen := hE.2.1
  have hkdl := jv_ltGet hkd
  have Ttd := (hE.2.2 kd td hkd).1
  have Otd := (hE.2.2 kd td hkd).2
  have Mmd := rt_m Ttd hjd
  have Omd := Otd.2.2.2.2.2.2 md (List.mem_of_getElem? hjd)
  have hjdl := jv_ltGet hjd
  have hjd6 := Otd.2.2.2.2.2.1
  have Bmda := Omd.2.2.1
  have Btdk := Otd.2.1
  have Btdn := Otd.1
  have hpk' := (hsc.I2 hS 23 (by decide) rfl (by decide) c).trans hpk
  have hsu' := (hsc.I2 hS 24 (by decide) rfl (by decide) c).trans hsu
  rcases su with _ | u
  · have hu16 := hpk5
    refine jv_iload_n (q := 1) G 3 dX8_mayReach_0 rfl rfl rfl ?_
    refine jv_callS_I (q := 4) (h1 := h) (As := [.int (nI (6 * (10 * e + kd) + jd))]) (rest := []) (ce' := 0) (sl' := 0) (r := nI ((6 * (10 * e + kd) + jd) / 6)) G Z ml_X8_183 (r_typeOf hlt (by omega)) dX8_mayReach_1 rfl (by decide) (by decide) (by decide) (by decide) (Nat.le_of_ble_eq_true rfl) rfl rfl rfl rfl ?_
    refine jv_topI (y := nI (10 * e + kd)) (congrArg nI (by omega)) ?_
    refine jv_istore (q := 6) (lo' := [(4, .int (nI (10 * e + kd))), (0, .ref x), (1, .int (nI c)), (2, .int (nI e)), (3, .int (nI (6 * (10 * e + kd) + jd)))]) G dX8_mayReach_4 (by decide) rfl rfl ?_
    refine jv_aload_n (q := 7) G 1 dX8_mayReach_6 rfl rfl rfl ?_
    refine jv_getQ (q := 10) G dX8_mayReach_7 fl_X8_53 rfl (hsc.S hS).1 (rf_p16 (hsc.S hS)) rfl ?_
    refine jv_iload_n (q := 11) G 4 dX8_mayReach_10 rfl rfl rfl ?_
    refine jv_iald (q := 12) G dX8_mayReach_11 (rf_a16 (hsc.S hS)) rfl (by omega) (by decide) (hsc.M hS Mmd).2.2.2.1 rfl ?_
    refine jv_iconst (q := 13) (v := nI 3) G dX8_mayReach_12 (by decide) rfl ?_
    refine jv_icmp_neN (q := 16) (tgt := 18) G dX8_mayReach_13 (by decide) rfl (by omega) (by omega) (fun c1 => ?_) (fun c1 => ?_)
    · refine jv_aload_n (q := 19) G 1 dX8_mayReach_18 rfl rfl rfl ?_
      refine jv_getQ (q := 22) G dX8_mayReach_19 fl_X8_53 rfl (hsc.S hS).1 (rf_p16 (hsc.S hS)) rfl ?_
      refine jv_iload_n (q := 23) G 4 dX8_mayReach_22 rfl rfl rfl ?_
      refine jv_iald (q := 24) G dX8_mayReach_23 (rf_a16 (hsc.S hS)) rfl (by omega) (by decide) (hsc.M hS Mmd).2.2.2.1 rfl ?_
      refine jv_if_neN (q := 27) (tgt := 29) G dX8_mayReach_24 (by decide) rfl (by omega) (fun c2 => ?_) (fun c2 => ?_)
      · refine jv_aload_n (q := 30) G 1 dX8_mayReach_29 rfl rfl rfl ?_
        refine jv_getQ (q := 33) G dX8_mayReach_30 fl_X8_26 rfl (hsc.S hS).1 (rf_p7 (hsc.S hS)) rfl ?_
        refine jv_iload (q := 35) G 0 dX8_mayReach_33 rfl rfl ?_
        refine jv_iald (q := 36) G dX8_mayReach_35 (rf_a7 (hsc.S hS)) rfl (by omega) (by decide) (rt_7 (hsc.T hS Ttd)) rfl ?_
        refine jv_aload_n (q := 37) G 1 dX8_mayReach_36 rfl rfl rfl ?_
        refine jv_getQ (q := 40) G dX8_mayReach_37 fl_X8_71 rfl (hsc.S hS).1 (rf_p23 (hsc.S hS)) rfl ?_
        refine jv_iload_n (q := 41) G 2 dX8_mayReach_40 rfl rfl rfl ?_
        refine jv_iald (q := 42) G dX8_mayReach_41 (rf_a23 (hsc.S hS)) rfl (by omega) (by decide) hpk' rfl ?_
        refine jv_icmp_neN (q := 45) (tgt := 47) G dX8_mayReach_42 (by decide) rfl (by omega) (by omega) (fun c3 => ?_) (fun c3 => ?_)
        · refine jv_aload_n (q := 48) G 1 dX8_mayReach_47 rfl rfl rfl ?_
          refine jv_getQ (q := 51) G dX8_mayReach_48 fl_X8_53 rfl (hsc.S hS).1 (rf_p16 (hsc.S hS)) rfl ?_
          refine jv_iload_n (q := 52) G 4 dX8_mayReach_51 rfl rfl rfl ?_
          refine jv_iald (q := 53) G dX8_mayReach_52 (rf_a16 (hsc.S hS)) rfl (by omega) (by decide) (hsc.M hS Mmd).2.2.2.1 rfl ?_
          refine jv_iconst (q := 54) (v := nI 1) G dX8_mayReach_53 (by decide) rfl ?_
          refine jv_icmp_eqN (q := 57) (tgt := 82) G dX8_mayReach_54 (by decide) rfl (by omega) (by omega) (fun c4 => ?_) (fun c4 => ?_)
          · refine jv_iconst (q := 83) (v := nI 0) G dX8_mayReach_82 (by decide) rfl ?_
            refine jv_topI (y := jv_bI false) rfl ?_
            refine jv_zret G hr dX8_mayReach_83 (Nat.le_of_ble_eq_true rfl) (Nat.le_of_ble_eq_true rfl) ?_
            refine ⟨?_, rfl⟩; unfold m_mr; first | (simp [*]; done) | simp_all
          · refine jv_aload_n (q := 58) G 1 dX8_mayReach_57 rfl rfl rfl ?_
            refine jv_getQ (q := 61) G dX8_mayReach_58 fl_X8_74 rfl (hsc.S hS).1 (rf_p24 (hsc.S hS)) rfl ?_
            refine jv_iload_n (q := 62) G 2 dX8_mayReach_61 rfl rfl rfl ?_
            refine jv_iald (q := 63) G dX8_mayReach_62 (rf_a24 (hsc.S hS)) rfl (by omega) (by decide) hsu' rfl ?_
            refine jv_iconst (q := 64) (v := (-1)) G dX8_mayReach_63 (by decide) rfl ?_
            refine jv_icmp_eq (q := 67) (tgt := 82) G dX8_mayReach_64 (by decide) rfl (fun c5 => ?_) (fun c5 => ?_)
            · refine jv_iconst (q := 83) (v := nI 0) G dX8_mayReach_82 (by decide) rfl ?_
              refine jv_topI (y := jv_bI false) rfl ?_
              refine jv_zret G hr dX8_mayReach_83 (Nat.le_of_ble_eq_true rfl) (Nat.le_of_ble_eq_true rfl) ?_
              refine ⟨?_, rfl⟩; unfold m_mr; first | (simp [*]; done) | simp_all
            · exact absurd rfl c5
        · refine jv_iconst (q := 46) (v := nI 1) G dX8_mayReach_45 (by decide) rfl ?_
          refine jv_topI (y := jv_bI true) rfl ?_
          refine jv_zret G hr dX8_mayReach_46 (Nat.le_of_ble_eq_true rfl) (Nat.le_of_ble_eq_true rfl) ?_
          refine ⟨?_, rfl⟩; unfold m_mr; first | (simp [*]; done) | simp_all
      · refine jv_iconst (q := 28) (v := nI 0) G dX8_mayReach_27 (by decide) rfl ?_
        refine jv_topI (y := jv_bI false) rfl ?_
        refine jv_zret G hr dX8_mayReach_28 (Nat.le_of_ble_eq_true rfl) (Nat.le_of_ble_eq_true rfl) ?_
        refine ⟨?_, rfl⟩; unfold m_mr; first | (simp [*]; done) | simp_all
    · refine jv_iconst (q := 17) (v := nI 1) G dX8_mayReach_16 (by decide) rfl ?_
      refine jv_topI (y := jv_bI true) rfl ?_
      refine jv_zret G hr dX8_mayReach_17 (Nat.le_of_ble_eq_true rfl) (Nat.le_of_ble_eq_true rfl) ?_
      refine ⟨?_, rfl⟩; unfold m_mr; first | (simp [*]; done) | simp_all
  · have hu16 := hsu16 u rfl
    refine jv_iload_n (q := 1) G 3 dX8_mayReach_0 rfl rfl rfl ?_
    refine jv_callS_I (q := 4) (h1 := h) (As := [.int (nI (6 * (10 * e + kd) + jd))]) (rest := []) (ce' := 0) (sl' := 0) (r := nI ((6 * (10 * e + kd) + jd) / 6)) G Z ml_X8_183 (r_typeOf hlt (by omega)) dX8_mayReach_1 rfl (by decide) (by decide) (by decide) (by decide) (Nat.le_of_ble_eq_true rfl) rfl rfl rfl rfl ?_
    refine jv_topI (y := nI (10 * e + kd)) (congrArg nI (by omega)) ?_
    refine jv_istore (q := 6) (lo' := [(4, .int (nI (10 * e + kd))), (0, .ref x), (1, .int (nI c)), (2, .int (nI e)), (3, .int (nI (6 * (10 * e + kd) + jd)))]) G dX8_mayReach_4 (by decide) rfl rfl ?_
    refine jv_aload_n (q := 7) G 1 dX8_mayReach_6 rfl rfl rfl ?_
    refine jv_getQ (q := 10) G dX8_mayReach_7 fl_X8_53 rfl (hsc.S hS).1 (rf_p16 (hsc.S hS)) rfl ?_
    refine jv_iload_n (q := 11) G 4 dX8_mayReach_10 rfl rfl rfl ?_
    refine jv_iald (q := 12) G dX8_mayReach_11 (rf_a16 (hsc.S hS)) rfl (by omega) (by decide) (hsc.M hS Mmd).2.2.2.1 rfl ?_
    refine jv_iconst (q := 13) (v := nI 3) G dX8_mayReach_12 (by decide) rfl ?_
    refine jv_icmp_neN (q := 16) (tgt := 18) G dX8_mayReach_13 (by decide) rfl (by omega) (by omega) (fun c6 => ?_) (fun c6 => ?_)
    · refine jv_aload_n (q := 19) G 1 dX8_mayReach_18 rfl rfl rfl ?_
      refine jv_getQ (q := 22) G dX8_mayReach_19 fl_X8_53 rfl (hsc.S hS).1 (rf_p16 (hsc.S hS)) rfl ?_
      refine jv_iload_n (q := 23) G 4 dX8_mayReach_22 rfl rfl rfl ?_
      refine jv_iald (q := 24) G dX8_mayReach_23 (rf_a16 (hsc.S hS)) rfl (by omega) (by decide) (hsc.M hS Mmd).2.2.2.1 rfl ?_
      refine jv_if_neN (q := 27) (tgt := 29) G dX8_mayReach_24 (by decide) rfl (by omega) (fun c7 => ?_) (fun c7 => ?_)
      · refine jv_aload_n (q := 30) G 1 dX8_mayReach_29 rfl rfl rfl ?_
        refine jv_getQ (q := 33) G dX8_mayReach_30 fl_X8_26 rfl (hsc.S hS).1 (rf_p7 (hsc.S hS)) rfl ?_
        refine jv_iload (q := 35) G 0 dX8_mayReach_33 rfl rfl ?_
        refine jv_iald (q := 36) G dX8_mayReach_35 (rf_a7 (hsc.S hS)) rfl (by omega) (by decide) (rt_7 (hsc.T hS Ttd)) rfl ?_
        refine jv_aload_n (q := 37) G 1 dX8_mayReach_36 rfl rfl rfl ?_
        refine jv_getQ (q := 40) G dX8_mayReach_37 fl_X8_71 rfl (hsc.S hS).1 (rf_p23 (hsc.S hS)) rfl ?_
        refine jv_iload_n (q := 41) G 2 dX8_mayReach_40 rfl rfl rfl ?_
        refine jv_iald (q := 42) G dX8_mayReach_41 (rf_a23 (hsc.S hS)) rfl (by omega) (by decide) hpk' rfl ?_
        refine jv_icmp_neN (q := 45) (tgt := 47) G dX8_mayReach_42 (by decide) rfl (by omega) (by omega) (fun c8 => ?_) (fun c8 => ?_)
        · refine jv_aload_n (q := 48) G 1 dX8_mayReach_47 rfl rfl rfl ?_
          refine jv_getQ (q := 51) G dX8_mayReach_48 fl_X8_53 rfl (hsc.S hS).1 (rf_p16 (hsc.S hS)) rfl ?_
          refine jv_iload_n (q := 52) G 4 dX8_mayReach_51 rfl rfl rfl ?_
          refine jv_iald (q := 53) G dX8_mayReach_52 (rf_a16 (hsc.S hS)) rfl (by omega) (by decide) (hsc.M hS Mmd).2.2.2.1 rfl ?_
          refine jv_iconst (q := 54) (v := nI 1) G dX8_mayReach_53 (by decide) rfl ?_
          refine jv_icmp_eqN (q := 57) (tgt := 82) G dX8_mayReach_54 (by decide) rfl (by omega) (by omega) (fun c9 => ?_) (fun c9 => ?_)
          · refine jv_iconst (q := 83) (v := nI 0) G dX8_mayReach_82 (by decide) rfl ?_
            refine jv_topI (y := jv_bI false) rfl ?_
            refine jv_zret G hr dX8_mayReach_83 (Nat.le_of_ble_eq_true rfl) (Nat.le_of_ble_eq_true rfl) ?_
            refine ⟨?_, rfl⟩; unfold m_mr; first | (simp [*]; done) | simp_all
          · refine jv_aload_n (q := 58) G 1 dX8_mayReach_57 rfl rfl rfl ?_
            refine jv_getQ (q := 61) G dX8_mayReach_58 fl_X8_74 rfl (hsc.S hS).1 (rf_p24 (hsc.S hS)) rfl ?_
            refine jv_iload_n (q := 62) G 2 dX8_mayReach_61 rfl rfl rfl ?_
            refine jv_iald (q := 63) G dX8_mayReach_62 (rf_a24 (hsc.S hS)) rfl (by omega) (by decide) hsu' rfl ?_
            refine jv_iconst (q := 64) (v := (-1)) G dX8_mayReach_63 (by decide) rfl ?_
            refine jv_icmp_eq (q := 67) (tgt := 82) G dX8_mayReach_64 (by decide) rfl (fun c10 => ?_) (fun c10 => ?_)
            · exact absurd c10 (jv_nI_m1 (by omega))
            · refine jv_aload_n (q := 68) G 1 dX8_mayReach_67 rfl rfl rfl ?_
              refine jv_iload_n (q := 69) G 3 dX8_mayReach_68 rfl rfl rfl ?_
              refine jv_aload_n (q := 70) G 1 dX8_mayReach_69 rfl rfl rfl ?_
              refine jv_getQ (q := 73) G dX8_mayReach_70 fl_X8_74 rfl (hsc.S hS).1 (rf_p24 (hsc.S hS)) rfl ?_
              refine jv_iload_n (q := 74) G 2 dX8_mayReach_73 rfl rfl rfl ?_
              refine jv_iald (q := 75) G dX8_mayReach_74 (rf_a24 (hsc.S hS)) rfl (by omega) (by decide) hsu' rfl ?_
              refine jv_callV_I (q := 78) (h1 := h) (As := [.int (nI e), .int (nI u)]) (rest := []) (ce' := 0) (sl' := 0) (r := jv_oN ((m_at ts (nI u)).map (fun k => 10 * e + k))) G Z ml_X8_151 (r_at hlt (hsc.S hS) he (hsc.E hS hE)) (hsc.S hS).1 dX8_mayReach_75 rfl (by decide) (by decide) (by decide) (by decide) (Nat.le_of_ble_eq_true rfl) rfl rfl rfl rfl ?_
              rcases Option.eq_none_or_eq_some (m_at ts (nI u)) with hk13 | ⟨k11, hk13⟩
              · refine jv_topI (y := (-1)) (by rw [hk13]; rfl) ?_
                refine jv_iconst (q := 79) (v := (-1)) G dX8_mayReach_78 (by decide) rfl ?_
                refine jv_icmp_ne (q := 82) (tgt := 84) G dX8_mayReach_79 (by decide) rfl (fun c14 => ?_) (fun c14 => ?_)
                · exact absurd rfl c14
                · refine jv_iconst (q := 83) (v := nI 0) G dX8_mayReach_82 (by decide) rfl ?_
                  refine jv_topI (y := jv_bI false) rfl ?_
                  refine jv_zret G hr dX8_mayReach_83 (Nat.le_of_ble_eq_true rfl) (Nat.le_of_ble_eq_true rfl) ?_
                  refine ⟨?_, rfl⟩; unfold m_mr; first | (simp [*]; done) | simp_all
              · refine jv_topI (y := nI (10 * e + k11)) (by rw [hk13]; rfl) ?_
                obtain ⟨t12, ht12, nt12, lt12⟩ := m_at_some hk13
                have Tt12 := (hE.2.2 k11 t12 ht12).1
                have Ot12 := (hE.2.2 k11 t12 ht12).2
                have Lt12 := hE.2.1
                have Bt12n := Ot12.1; have Bt12k := Ot12.2.1
                refine jv_iconst (q := 79) (v := (-1)) G dX8_mayReach_78 (by decide) rfl ?_
                refine jv_icmp_ne (q := 82) (tgt := 84) G dX8_mayReach_79 (by decide) rfl (fun c15 => ?_) (fun c15 => ?_)
                · refine jv_aload_n (q := 85) G 1 dX8_mayReach_84 rfl rfl rfl ?_
                  refine jv_getQ (q := 88) G dX8_mayReach_85 fl_X8_74 rfl (hsc.S hS).1 (rf_p24 (hsc.S hS)) rfl ?_
                  refine jv_iload_n (q := 89) G 2 dX8_mayReach_88 rfl rfl rfl ?_
                  refine jv_iald (q := 90) G dX8_mayReach_89 (rf_a24 (hsc.S hS)) rfl (by omega) (by decide) hsu' rfl ?_
                  refine jv_aload_n (q := 91) G 1 dX8_mayReach_90 rfl rfl rfl ?_
                  refine jv_getQ (q := 94) G dX8_mayReach_91 fl_X8_17 rfl (hsc.S hS).1 (rf_p4 (hsc.S hS)) rfl ?_
                  refine jv_iload (q := 96) G 0 dX8_mayReach_94 rfl rfl ?_
                  refine jv_iald (q := 97) G dX8_mayReach_96 (rf_a4 (hsc.S hS)) rfl (by omega) (by decide) (rt_4 (hsc.T hS Ttd)) rfl ?_
                  refine jv_icmp_eqN (q := 100) (tgt := 121) G dX8_mayReach_97 (by decide) rfl (by omega) (by omega) (fun c16 => ?_) (fun c16 => ?_)
                  · refine jv_iconst (q := 122) (v := nI 1) G dX8_mayReach_121 (by decide) rfl ?_
                    refine jv_goto (q := 126) G dX8_mayReach_122 (by decide) ?_
                    refine jv_topI (y := jv_bI true) rfl ?_
                    refine jv_zret G hr dX8_mayReach_126 (Nat.le_of_ble_eq_true rfl) (Nat.le_of_ble_eq_true rfl) ?_
                    refine ⟨?_, rfl⟩; unfold m_mr; first | (simp [*]; done) | simp_all
                  · refine jv_aload_n (q := 101) G 1 dX8_mayReach_100 rfl rfl rfl ?_
                    refine jv_iload_n (q := 102) G 3 dX8_mayReach_101 rfl rfl rfl ?_
                    refine jv_aload_n (q := 103) G 1 dX8_mayReach_102 rfl rfl rfl ?_
                    refine jv_getQ (q := 106) G dX8_mayReach_103 fl_X8_17 rfl (hsc.S hS).1 (rf_p4 (hsc.S hS)) rfl ?_
                    refine jv_iload (q := 108) G 0 dX8_mayReach_106 rfl rfl ?_
                    refine jv_iald (q := 109) G dX8_mayReach_108 (rf_a4 (hsc.S hS)) rfl (by omega) (by decide) (rt_4 (hsc.T hS Ttd)) rfl ?_
                    refine jv_aload_n (q := 110) G 1 dX8_mayReach_109 rfl rfl rfl ?_
                    refine jv_getQ (q := 113) G dX8_mayReach_110 fl_X8_74 rfl (hsc.S hS).1 (rf_p24 (hsc.S hS)) rfl ?_
                    refine jv_iload_n (q := 114) G 2 dX8_mayReach_113 rfl rfl rfl ?_
                    refine jv_iald (q := 115) G dX8_mayReach_114 (rf_a24 (hsc.S hS)) rfl (by omega) (by decide) hsu' rfl ?_
                    refine jv_callV_I (q := 118) (h1 := h) (As := [.int (nI e), .int (nI (mt_n td)), .int (nI u)]) (rest := []) (ce' := 0) (sl' := 0) (r := jv_bI (m_isA ts (nI (mt_n td)) (nI u))) G Z ml_X8_167 (r_isAbove hlt hsc hS he hV) (hsc.S hS).1 dX8_mayReach_115 rfl (by decide) (by decide) (by decide) (by decide) (Nat.le_of_ble_eq_true rfl) rfl rfl rfl rfl ?_
                    refine jv_if_eqB (q := 121) (tgt := 125) G dX8_mayReach_118 (by decide) rfl (fun c17 => ?_) (fun c17 => ?_)
                    · refine jv_iconst (q := 126) (v := nI 0) G dX8_mayReach_125 (by decide) rfl ?_
                      refine jv_topI (y := jv_bI false) rfl ?_
                      refine jv_zret G hr dX8_mayReach_126 (Nat.le_of_ble_eq_true rfl) (Nat.le_of_ble_eq_true rfl) ?_
                      refine ⟨?_, rfl⟩; unfold m_mr; first | (simp [*]; done) | simp_all
                    · refine jv_iconst (q := 122) (v := nI 1) G dX8_mayReach_121 (by decide) rfl ?_
                      refine jv_goto (q := 126) G dX8_mayReach_122 (by decide) ?_
                      refine jv_topI (y := jv_bI true) rfl ?_
                      refine jv_zret G hr dX8_mayReach_126 (Nat.le_of_ble_eq_true rfl) (Nat.le_of_ble_eq_true rfl) ?_
                      refine ⟨?_, rfl⟩; unfold m_mr; first | (simp [*]; done) | simp_all
                · exact absurd c15 (jv_nI_m1 (by omega))
        · refine jv_iconst (q := 46) (v := nI 1) G dX8_mayReach_45 (by decide) rfl ?_
          refine jv_topI (y := jv_bI true) rfl ?_
          refine jv_zret G hr dX8_mayReach_46 (Nat.le_of_ble_eq_true rfl) (Nat.le_of_ble_eq_true rfl) ?_
          refine ⟨?_, rfl⟩; unfold m_mr; first | (simp [*]; done) | simp_all
      · refine jv_iconst (q := 28) (v := nI 0) G dX8_mayReach_27 (by decide) rfl ?_
        refine jv_topI (y := jv_bI false) rfl ?_
        refine jv_zret G hr dX8_mayReach_28 (Nat.le_of_ble_eq_true rfl) (Nat.le_of_ble_eq_true rfl) ?_
        refine ⟨?_, rfl⟩; unfold m_mr; first | (simp [*]; done) | simp_all
    · refine jv_iconst (q := 17) (v := nI 1) G dX8_mayReach_16 (by decide) rfl ?_
      refine jv_topI (y := jv_bI true) rfl ?_
      refine jv_zret G hr dX8_mayReach_17 (Nat.le_of_ble_eq_true rfl) (Nat.le_of_ble_eq_true rfl) ?_
      refine ⟨?_, rfl⟩; unfold m_mr; first | (simp [*]; done) | simp_all
