/-- a field found from the place k on, by at most d steps up: the type's place, the member's -/
def m_ff (ts : List mT) : Nat → Nat → Int32 → Int32 → Option (Nat × Nat)
  | 0, _, _, _ => none
  | d + 1, k, n, s => match ts[k]? with
    | none => none
    | some t => match m_own t (nI 0) n s with
      | some j => some (k, j)
      | none => match (mt_f t).findSome? (fun v => (m_at ts (nI v)).bind (fun k' => m_ff ts d k' n s)) with
        | some r => some r
        | none => (mt_u t).bind (fun u => (m_at ts (nI u)).bind (fun k' => m_ff ts d k' n s))
/-- all ways up from the place k are shorter than d, and lead to types -/
def m_hg (ts : List mT) : Nat → Nat → Prop
  | 0, _ => False
  | d + 1, k => ∀ t, ts[k]? = some t → (∀ v, v ∈ mt_f t → ∃ k', m_at ts (nI v) = some k' ∧ m_hg ts d k') ∧ (∀ u, mt_u t = some u → ∃ k', m_at ts (nI u) = some k' ∧ m_hg ts d k')
def ffE (e : Nat) (r : Option (Nat × Nat)) : Int32 := jv_oN (r.map (fun p => 6 * (10 * e + p.1) + p.2))
theorem m_ff_some {ts : List mT} {n s : Int32} : ∀ {d k : Nat} {p : Nat × Nat}, m_ff ts d k n s = some p → ∃ t, ts[p.1]? = some t ∧ m_own t (nI 0) n s = some p.2
  | 0, k, p, h => by cases h
  | d + 1, k, p, h => by
    rw [m_ff] at h
    cases hk : ts[k]? with
    | none => rw [hk] at h; cases h
    | some t =>
      rw [hk] at h
      dsimp only at h
      cases ho : m_own t (nI 0) n s with
      | some j => rw [ho] at h; cases h; exact ⟨t, hk, ho⟩
      | none =>
        rw [ho] at h
        dsimp only at h
        have hb : ∀ v, (m_at ts (nI v)).bind (fun k' => m_ff ts d k' n s) = some p → ∃ t, ts[p.1]? = some t ∧ m_own t (nI 0) n s = some p.2 := by
          intro v hv
          cases ha : m_at ts (nI v) with
          | none => rw [ha] at hv; cases hv
          | some k' => rw [ha] at hv; exact m_ff_some hv
        cases hf : (mt_f t).findSome? (fun v => (m_at ts (nI v)).bind (fun k' => m_ff ts d k' n s)) with
        | some r =>
          rw [hf] at h
          dsimp only at h
          rw [h] at hf
          obtain ⟨v, -, hv⟩ := List.exists_of_findSome?_eq_some hf
          exact hb v hv
        | none =>
          rw [hf] at h
          dsimp only at h
          cases hu : mt_u t with
          | none => rw [hu] at h; cases h
          | some u => rw [hu] at h; exact hb u h
theorem m_ff_lt {ts : List mT} {n s : Int32} (hok : ∀ (k : Nat) (t : mT), ts[k]? = some t → mt_ok t) {d k : Nat} {p : Nat × Nat} (h : m_ff ts d k n s = some p) : p.1 < ts.length ∧ p.2 < 6 := by
  obtain ⟨t, h1, h2⟩ := m_ff_some h
  obtain ⟨m, -, -, -, -, h3⟩ := m_own_some h2
  exact ⟨jv_ltGet h1, Nat.lt_of_lt_of_le h3 (hok _ _ h1).2.2.2.2.2.1⟩
/-- what the loop over the interfaces has found, and what then comes -/
def ff_R (ts : List mT) (d : Nat) (t : mT) (n s : Int32) (r : Option (Nat × Nat)) (i : Nat) : Option (Nat × Nat) := match r with
  | some p => some p
  | none => match ((mt_f t).drop i).findSome? (fun v => (m_at ts (nI v)).bind (fun k' => m_ff ts d k' n s)) with
    | some r => some r
    | none => (mt_u t).bind (fun u => (m_at ts (nI u)).bind (fun k' => m_ff ts d k' n s))
theorem ff_R_next {ts : List mT} {d : Nat} {t : mT} {n s : Int32} {i v k' : Nat} (hv : (mt_f t)[i]? = some v) (hk : m_at ts (nI v) = some k') : ff_R ts d t n s none i = ff_R ts d t n s (m_ff ts d k' n s) (i + 1) := by
  have hd : (mt_f t).drop i = v :: (mt_f t).drop (i + 1) := by
    obtain ⟨hl, e⟩ := List.getElem?_eq_some_iff.mp hv
    rw [List.drop_eq_getElem_cons hl, e]
  unfold ff_R
  rw [hd, List.findSome?_cons, hk]
  dsimp only [Option.bind]
  cases m_ff ts d k' n s <;> rfl
theorem ff_R_end {ts : List mT} {d : Nat} {t : mT} {n s : Int32} : ff_R ts d t n s none (mt_f t).length = (mt_u t).bind (fun u => (m_at ts (nI u)).bind (fun k' => m_ff ts d k' n s)) := by
  unfold ff_R
  rw [List.drop_length]
  rfl
theorem m_at_lt {ts : List mT} {n : Int32} {k : Nat} (h : m_at ts n = some k) : k < ts.length := (m_at_some h).choose_spec.2.2
set_option maxHeartbeats 4000000 in
set_option maxRecDepth 100000 in
theorem r_findField {lA : Launch} (hlt : lA.stackTraces = false) {D : jv_D} {base : Nat} {x : Nat} {q : Nat → Nat} {h0 h : jv_H} {e : Nat} {n s : Int32} {ts : List mT} (hsc : sc x q h0 h) (hS : rf_S x q h0) (he : e < 8) (hE : rf_E q h0 e ts) : ∀ (d k : Nat), m_hg ts d k → k < ts.length → jv_Met lA D base yX8_findField (.code yX8_findField cX8_findField 7 (some .int)) (d + 2) 0 0 [.ref x, .int (nI e), .int (nI (10 * e + k)), .int n, .int s] h (jv_rI (ffE e (m_ff ts d k n s)) h) jv_no := by
  have hlen := hE.2.1
  have hok : ∀ (k : Nat) (t : mT), ts[k]? = some t → mt_ok t := fun k t ht => (hE.2.2 k t ht).2
  intro d
  induction d with
  | zero => intro k hh; exact hh.elim
  | succ d ih =>
    intro k hh hk
    obtain ⟨t, ht⟩ := jv_getLt (l := ts) (k := k) hk
    have hT := (hE.2.2 k t ht).1
    have hO := (hE.2.2 k t ht).2
    obtain ⟨hup, hsup⟩ := hh t ht
    have hfl : (mt_f t).length ≤ 3 := hO.2.2.2.1
    refine jv_ofV (lo := [(0, .ref x), (1, .int (nI e)), (2, .int (nI (10 * e + k))), (3, .int n), (4, .int s)]) hlt (by decide) (Nat.le_of_ble_eq_true rfl) rfl (fun E hEl hEd hEz Z G hr hti hnm => ?_)
    subst hEl; subst hEd; subst hEz
    have loop : ∀ (m i : Nat) (r : Option (Nat × Nat)), (∀ p, r = some p → p.1 < 10 ∧ p.2 < 6) → i + m = (mt_f t).length → jv_V E 7 h 0 0 (jv_Q E (jv_rI (ffE e (ff_R ts d t n s r i)) h) jv_no 0 0) 14 [(5, .int (ffE e r)), (6, .int (nI i)), (0, .ref x), (1, .int (nI e)), (2, .int (nI (10 * e + k))), (3, .int n), (4, .int s)] [] := by
      intro m
      induction m with
      | zero =>
        intro i r hr6 hi
        rcases r with _ | p
        · have hil : i = (mt_f t).length := by omega
          subst hil
          rw [ff_R_end]
          rcases Option.eq_none_or_eq_some (mt_u t) with hu | ⟨u, hu⟩
          · show jv_V E 7 h 0 0 (jv_Q E (jv_rI (ffE e ((mt_u t).bind (fun u => (m_at ts (nI u)).bind (fun k' => m_ff ts d k' n s)))) h) jv_no 0 0) 14 [(5, .int (-1)), (6, .int (nI ((mt_f t).length))), (0, .ref x), (1, .int (nI e)), (2, .int (nI (10 * e + k))), (3, .int n), (4, .int s)] []
            refine jv_iload (q := 16) G 0 dX8_findField_14 rfl rfl ?_
            refine jv_iconst (q := 17) (v := (-1)) G dX8_findField_16 (by decide) rfl ?_
            refine jv_icmp_ne (q := 20) (tgt := 63) G dX8_findField_17 (by decide) rfl (fun c1 => ?_) (fun c1 => ?_)
            · exact absurd rfl c1
            · refine jv_iload (q := 22) G 1 dX8_findField_20 rfl rfl ?_
              refine jv_aload_n (q := 23) G 2 dX8_findField_22 rfl rfl rfl ?_
              refine jv_getQ (q := 26) G dX8_findField_23 fl_X8_35 rfl (hsc.S hS).1 (rf_p10 (hsc.S hS)) rfl ?_
              refine jv_iload_n (q := 27) G 4 dX8_findField_26 rfl rfl rfl ?_
              refine jv_iald (q := 28) G dX8_findField_27 (rf_a10 (hsc.S hS)) rfl (by omega) (by decide) (rt_10 (hsc.T hS hT)) rfl ?_
              refine jv_icmp_geN (q := 31) (tgt := 63) G dX8_findField_28 (by decide) rfl (by omega) (by omega) (fun c2 => ?_) (fun c2 => ?_)
              · refine jv_iload (q := 65) G 0 dX8_findField_63 rfl rfl ?_
                refine jv_iconst (q := 66) (v := (-1)) G dX8_findField_65 (by decide) rfl ?_
                refine jv_icmp_ne (q := 69) (tgt := 100) G dX8_findField_66 (by decide) rfl (fun c3 => ?_) (fun c3 => ?_)
                · exact absurd rfl c3
                · refine jv_aload_n (q := 70) G 2 dX8_findField_69 rfl rfl rfl ?_
                  refine jv_getQ (q := 73) G dX8_findField_70 fl_X8_32 rfl (hsc.S hS).1 (rf_p9 (hsc.S hS)) rfl ?_
                  refine jv_iload_n (q := 74) G 4 dX8_findField_73 rfl rfl rfl ?_
                  refine jv_iald (q := 75) G dX8_findField_74 (rf_a9 (hsc.S hS)) rfl (by omega) (by decide) ((rt_9 (hsc.T hS hT)).trans (congrArg jv_oN hu)) rfl ?_
                  refine jv_iconst (q := 76) (v := (-1)) G dX8_findField_75 (by decide) rfl ?_
                  refine jv_icmp_eq (q := 79) (tgt := 100) G dX8_findField_76 (by decide) rfl (fun c4 => ?_) (fun c4 => ?_)
                  · refine jv_iload (q := 102) G 0 dX8_findField_100 rfl rfl ?_
                    refine jv_iret G hr dX8_findField_102 (Nat.le_of_ble_eq_true rfl) (Nat.le_of_ble_eq_true rfl) ?_
                    exact ⟨by rw [hu]; rfl, rfl⟩
                  · exact absurd rfl c4
              · omega
          · obtain ⟨k1, hk1, hg1⟩ := hsup u hu
            have hu16 := (hO.2.2.1 u hu).1
            show jv_V E 7 h 0 0 (jv_Q E (jv_rI (ffE e ((mt_u t).bind (fun u => (m_at ts (nI u)).bind (fun k' => m_ff ts d k' n s)))) h) jv_no 0 0) 14 [(5, .int (-1)), (6, .int (nI ((mt_f t).length))), (0, .ref x), (1, .int (nI e)), (2, .int (nI (10 * e + k))), (3, .int n), (4, .int s)] []
            refine jv_iload (q := 16) G 0 dX8_findField_14 rfl rfl ?_
            refine jv_iconst (q := 17) (v := (-1)) G dX8_findField_16 (by decide) rfl ?_
            refine jv_icmp_ne (q := 20) (tgt := 63) G dX8_findField_17 (by decide) rfl (fun c5 => ?_) (fun c5 => ?_)
            · exact absurd rfl c5
            · refine jv_iload (q := 22) G 1 dX8_findField_20 rfl rfl ?_
              refine jv_aload_n (q := 23) G 2 dX8_findField_22 rfl rfl rfl ?_
              refine jv_getQ (q := 26) G dX8_findField_23 fl_X8_35 rfl (hsc.S hS).1 (rf_p10 (hsc.S hS)) rfl ?_
              refine jv_iload_n (q := 27) G 4 dX8_findField_26 rfl rfl rfl ?_
              refine jv_iald (q := 28) G dX8_findField_27 (rf_a10 (hsc.S hS)) rfl (by omega) (by decide) (rt_10 (hsc.T hS hT)) rfl ?_
              refine jv_icmp_geN (q := 31) (tgt := 63) G dX8_findField_28 (by decide) rfl (by omega) (by omega) (fun c6 => ?_) (fun c6 => ?_)
              · refine jv_iload (q := 65) G 0 dX8_findField_63 rfl rfl ?_
                refine jv_iconst (q := 66) (v := (-1)) G dX8_findField_65 (by decide) rfl ?_
                refine jv_icmp_ne (q := 69) (tgt := 100) G dX8_findField_66 (by decide) rfl (fun c7 => ?_) (fun c7 => ?_)
                · exact absurd rfl c7
                · refine jv_aload_n (q := 70) G 2 dX8_findField_69 rfl rfl rfl ?_
                  refine jv_getQ (q := 73) G dX8_findField_70 fl_X8_32 rfl (hsc.S hS).1 (rf_p9 (hsc.S hS)) rfl ?_
                  refine jv_iload_n (q := 74) G 4 dX8_findField_73 rfl rfl rfl ?_
                  refine jv_iald (q := 75) G dX8_findField_74 (rf_a9 (hsc.S hS)) rfl (by omega) (by decide) ((rt_9 (hsc.T hS hT)).trans (congrArg jv_oN hu)) rfl ?_
                  refine jv_iconst (q := 76) (v := (-1)) G dX8_findField_75 (by decide) rfl ?_
                  refine jv_icmp_eq (q := 79) (tgt := 100) G dX8_findField_76 (by decide) rfl (fun c8 => ?_) (fun c8 => ?_)
                  · exact absurd c8 (jv_nI_m1 (by omega))
                  · refine jv_aload_n (q := 80) G 2 dX8_findField_79 rfl rfl rfl ?_
                    refine jv_iload_n (q := 81) G 3 dX8_findField_80 rfl rfl rfl ?_
                    refine jv_aload_n (q := 82) G 2 dX8_findField_81 rfl rfl rfl ?_
                    refine jv_iload_n (q := 83) G 3 dX8_findField_82 rfl rfl rfl ?_
                    refine jv_aload_n (q := 84) G 2 dX8_findField_83 rfl rfl rfl ?_
                    refine jv_getQ (q := 87) G dX8_findField_84 fl_X8_32 rfl (hsc.S hS).1 (rf_p9 (hsc.S hS)) rfl ?_
                    refine jv_iload_n (q := 88) G 4 dX8_findField_87 rfl rfl rfl ?_
                    refine jv_iald (q := 89) G dX8_findField_88 (rf_a9 (hsc.S hS)) rfl (by omega) (by decide) ((rt_9 (hsc.T hS hT)).trans (congrArg jv_oN hu)) rfl ?_
                    refine jv_callV_I (q := 92) (h1 := h) (As := [.int (nI e), .int (nI u)]) (rest := [.int (nI e), .ref x]) (ce' := 0) (sl' := 0) (r := jv_oN ((m_at ts (nI u)).map (fun k => 10 * e + k))) G Z ml_X8_151 (r_at hlt (hsc.S hS) he (hsc.E hS hE)) (hsc.S hS).1 dX8_findField_89 rfl (by omega) (by decide) (by decide) (by decide) (Nat.le_of_ble_eq_true rfl) rfl rfl rfl rfl ?_
                    refine jv_topI (y := nI (10 * e + k1)) (by rw [hk1]; rfl) ?_
                    refine jv_iload_n (q := 93) G 5 dX8_findField_92 rfl rfl rfl ?_
                    refine jv_iload (q := 95) G 6 dX8_findField_93 rfl rfl ?_
                    refine jv_callV_I (q := 98) (h1 := h) (As := [.int (nI e), .int (nI (10 * e + k1)), .int n, .int s]) (rest := []) (ce' := 0) (sl' := 0) (r := (ffE e (m_ff ts d k1 n s))) G Z ml_X8_173 (ih k1 hg1 (m_at_lt hk1)) (hsc.S hS).1 dX8_findField_95 rfl (by omega) (by decide) (by decide) (by decide) (Nat.le_of_ble_eq_true rfl) rfl rfl rfl rfl ?_
                    refine jv_istore (q := 100) (lo' := [(5, .int (ffE e (m_ff ts d k1 n s))), (6, .int (nI ((mt_f t).length))), (0, .ref x), (1, .int (nI e)), (2, .int (nI (10 * e + k))), (3, .int n), (4, .int s)]) G dX8_findField_98 (by decide) rfl rfl ?_
                    refine jv_iload (q := 102) G 0 dX8_findField_100 rfl rfl ?_
                    refine jv_iret G hr dX8_findField_102 (Nat.le_of_ble_eq_true rfl) (Nat.le_of_ble_eq_true rfl) ?_
                    exact ⟨by rw [hu]; dsimp only [Option.bind_some]; rw [hk1]; rfl, rfl⟩
              · omega
        · obtain ⟨hp1, hp2⟩ := hr6 p rfl
          show jv_V E 7 h 0 0 (jv_Q E (jv_rI (ffE e (ff_R ts d t n s (some p) i)) h) jv_no 0 0) 14 [(5, .int (nI (6 * (10 * e + p.1) + p.2))), (6, .int (nI i)), (0, .ref x), (1, .int (nI e)), (2, .int (nI (10 * e + k))), (3, .int n), (4, .int s)] []
          refine jv_iload (q := 16) G 0 dX8_findField_14 rfl rfl ?_
          refine jv_iconst (q := 17) (v := (-1)) G dX8_findField_16 (by decide) rfl ?_
          refine jv_icmp_ne (q := 20) (tgt := 63) G dX8_findField_17 (by decide) rfl (fun c1 => ?_) (fun c1 => ?_)
          · refine jv_iload (q := 65) G 0 dX8_findField_63 rfl rfl ?_
            refine jv_iconst (q := 66) (v := (-1)) G dX8_findField_65 (by decide) rfl ?_
            refine jv_icmp_ne (q := 69) (tgt := 100) G dX8_findField_66 (by decide) rfl (fun c2 => ?_) (fun c2 => ?_)
            · refine jv_iload (q := 102) G 0 dX8_findField_100 rfl rfl ?_
              refine jv_iret G hr dX8_findField_102 (Nat.le_of_ble_eq_true rfl) (Nat.le_of_ble_eq_true rfl) ?_
              exact ⟨rfl, rfl⟩
            · exact absurd c2 (jv_nI_m1 (by omega))
          · exact absurd c1 (jv_nI_m1 (by omega))
      | succ m ih2 =>
        intro i r hr6 hi
        rcases r with _ | p
        · obtain ⟨v, hv⟩ := jv_getLt (l := mt_f t) (k := i) (by omega)
          obtain ⟨k1, hk1, hg1⟩ := hup v (List.mem_of_getElem? hv)
          have hv16 := hO.2.2.2.2.1 v (List.mem_of_getElem? hv)
          show jv_V E 7 h 0 0 (jv_Q E (jv_rI (ffE e (ff_R ts d t n s none i)) h) jv_no 0 0) 14 [(5, .int (-1)), (6, .int (nI i)), (0, .ref x), (1, .int (nI e)), (2, .int (nI (10 * e + k))), (3, .int n), (4, .int s)] []
          refine jv_iload (q := 16) G 0 dX8_findField_14 rfl rfl ?_
          refine jv_iconst (q := 17) (v := (-1)) G dX8_findField_16 (by decide) rfl ?_
          refine jv_icmp_ne (q := 20) (tgt := 63) G dX8_findField_17 (by decide) rfl (fun c1 => ?_) (fun c1 => ?_)
          · exact absurd rfl c1
          · refine jv_iload (q := 22) G 1 dX8_findField_20 rfl rfl ?_
            refine jv_aload_n (q := 23) G 2 dX8_findField_22 rfl rfl rfl ?_
            refine jv_getQ (q := 26) G dX8_findField_23 fl_X8_35 rfl (hsc.S hS).1 (rf_p10 (hsc.S hS)) rfl ?_
            refine jv_iload_n (q := 27) G 4 dX8_findField_26 rfl rfl rfl ?_
            refine jv_iald (q := 28) G dX8_findField_27 (rf_a10 (hsc.S hS)) rfl (by omega) (by decide) (rt_10 (hsc.T hS hT)) rfl ?_
            refine jv_icmp_geN (q := 31) (tgt := 63) G dX8_findField_28 (by decide) rfl (by omega) (by omega) (fun c2 => ?_) (fun c2 => ?_)
            · omega
            · refine jv_aload_n (q := 32) G 2 dX8_findField_31 rfl rfl rfl ?_
              refine jv_iload_n (q := 33) G 3 dX8_findField_32 rfl rfl rfl ?_
              refine jv_aload_n (q := 34) G 2 dX8_findField_33 rfl rfl rfl ?_
              refine jv_iload_n (q := 35) G 3 dX8_findField_34 rfl rfl rfl ?_
              refine jv_aload_n (q := 36) G 2 dX8_findField_35 rfl rfl rfl ?_
              refine jv_getQ (q := 39) G dX8_findField_36 fl_X8_38 rfl (hsc.S hS).1 (rf_p11 (hsc.S hS)) rfl ?_
              refine jv_iconst (q := 40) (v := nI 3) G dX8_findField_39 (by decide) rfl ?_
              refine jv_iload_n (q := 41) G 4 dX8_findField_40 rfl rfl rfl ?_
              refine jv_imulN (q := 42) G dX8_findField_41 rfl ?_
              refine jv_iload (q := 44) G 1 dX8_findField_42 rfl rfl ?_
              refine jv_iaddN (q := 45) G dX8_findField_44 rfl ?_
              refine jv_iald (q := 46) G dX8_findField_45 (rf_a11 (hsc.S hS)) rfl (by omega) (by decide) (rt_11 (hsc.T hS hT) hv) rfl ?_
              refine jv_callV_I (q := 49) (h1 := h) (As := [.int (nI e), .int (nI v)]) (rest := [.int (nI e), .ref x]) (ce' := 0) (sl' := 0) (r := jv_oN ((m_at ts (nI v)).map (fun k => 10 * e + k))) G Z ml_X8_151 (r_at hlt (hsc.S hS) he (hsc.E hS hE)) (hsc.S hS).1 dX8_findField_46 rfl (by omega) (by decide) (by decide) (by decide) (Nat.le_of_ble_eq_true rfl) rfl rfl rfl rfl ?_
              refine jv_topI (y := nI (10 * e + k1)) (by rw [hk1]; rfl) ?_
              refine jv_iload_n (q := 50) G 5 dX8_findField_49 rfl rfl rfl ?_
              refine jv_iload (q := 52) G 6 dX8_findField_50 rfl rfl ?_
              refine jv_callV_I (q := 55) (h1 := h) (As := [.int (nI e), .int (nI (10 * e + k1)), .int n, .int s]) (rest := []) (ce' := 0) (sl' := 0) (r := (ffE e (m_ff ts d k1 n s))) G Z ml_X8_173 (ih k1 hg1 (m_at_lt hk1)) (hsc.S hS).1 dX8_findField_52 rfl (by omega) (by decide) (by decide) (by decide) (Nat.le_of_ble_eq_true rfl) rfl rfl rfl rfl ?_
              refine jv_istore (q := 57) (lo' := [(5, .int (ffE e (m_ff ts d k1 n s))), (6, .int (nI i)), (0, .ref x), (1, .int (nI e)), (2, .int (nI (10 * e + k))), (3, .int n), (4, .int s)]) G dX8_findField_55 (by decide) rfl rfl ?_
              refine jv_iinc (q := 60) (lo' := [(6, .int (nI (i + 1))), (5, .int (ffE e (m_ff ts d k1 n s))), (0, .ref x), (1, .int (nI e)), (2, .int (nI (10 * e + k))), (3, .int n), (4, .int s)]) (v := nI (i + 1)) G 1 dX8_findField_57 rfl (nI_1 i) (by decide) rfl rfl ?_
              refine jv_goto (q := 14) G dX8_findField_60 (by decide) ?_
              refine jv_lo [1, 0, 2, 3, 4, 5, 6] (lo' := [(5, .int (ffE e (m_ff ts d k1 n s))), (6, .int (nI (i + 1))), (0, .ref x), (1, .int (nI e)), (2, .int (nI (10 * e + k))), (3, .int n), (4, .int s)]) rfl ?_
              rw [ff_R_next hv hk1]; exact ih2 (i + 1) _ (fun p hp => ⟨by have := (m_ff_lt hok hp).1; omega, (m_ff_lt hok hp).2⟩) (by omega)
        · obtain ⟨hp1, hp2⟩ := hr6 p rfl
          show jv_V E 7 h 0 0 (jv_Q E (jv_rI (ffE e (ff_R ts d t n s (some p) i)) h) jv_no 0 0) 14 [(5, .int (nI (6 * (10 * e + p.1) + p.2))), (6, .int (nI i)), (0, .ref x), (1, .int (nI e)), (2, .int (nI (10 * e + k))), (3, .int n), (4, .int s)] []
          refine jv_iload (q := 16) G 0 dX8_findField_14 rfl rfl ?_
          refine jv_iconst (q := 17) (v := (-1)) G dX8_findField_16 (by decide) rfl ?_
          refine jv_icmp_ne (q := 20) (tgt := 63) G dX8_findField_17 (by decide) rfl (fun c1 => ?_) (fun c1 => ?_)
          · refine jv_iload (q := 65) G 0 dX8_findField_63 rfl rfl ?_
            refine jv_iconst (q := 66) (v := (-1)) G dX8_findField_65 (by decide) rfl ?_
            refine jv_icmp_ne (q := 69) (tgt := 100) G dX8_findField_66 (by decide) rfl (fun c2 => ?_) (fun c2 => ?_)
            · refine jv_iload (q := 102) G 0 dX8_findField_100 rfl rfl ?_
              refine jv_iret G hr dX8_findField_102 (Nat.le_of_ble_eq_true rfl) (Nat.le_of_ble_eq_true rfl) ?_
              exact ⟨rfl, rfl⟩
            · exact absurd c2 (jv_nI_m1 (by omega))
          · exact absurd c1 (jv_nI_m1 (by omega))
    refine jv_aload_n (q := 1) G 0 dX8_findField_0 rfl rfl rfl ?_
    refine jv_iload_n (q := 2) G 2 dX8_findField_1 rfl rfl rfl ?_
    refine jv_iconst (q := 3) (v := nI 0) G dX8_findField_2 (by decide) rfl ?_
    refine jv_iload_n (q := 4) G 3 dX8_findField_3 rfl rfl rfl ?_
    refine jv_iload (q := 6) G 4 dX8_findField_4 rfl rfl ?_
    refine jv_callV_I (q := 9) (h1 := h) (As := [.int (nI (10 * e + k)), .int (nI 0), .int n, .int s]) (rest := []) (ce' := 0) (sl' := 0) (r := jv_oN ((m_own t (nI 0) n s).map (fun j => 6 * (10 * e + k) + j))) G Z ml_X8_155 (r_own hlt (hsc.S hS) (by omega) (hsc.T hS hT) hO) (hsc.S hS).1 dX8_findField_6 rfl (by omega) (by decide) (by decide) (by decide) (Nat.le_of_ble_eq_true rfl) rfl rfl rfl rfl ?_
    rcases Option.eq_none_or_eq_some (m_own t (nI 0) n s) with hj3 | ⟨j1, hj3⟩
    · refine jv_topI (y := (-1)) (by rw [hj3]; rfl) ?_
      refine jv_istore (q := 11) (lo' := [(5, .int (-1)), (0, .ref x), (1, .int (nI e)), (2, .int (nI (10 * e + k))), (3, .int n), (4, .int s)]) G dX8_findField_9 (by decide) rfl rfl ?_
      refine jv_iconst (q := 12) (v := nI 0) G dX8_findField_11 (by decide) rfl ?_
      refine jv_istore (q := 14) (lo' := [(6, .int (nI 0)), (5, .int (-1)), (0, .ref x), (1, .int (nI e)), (2, .int (nI (10 * e + k))), (3, .int n), (4, .int s)]) G dX8_findField_12 (by decide) rfl rfl ?_
      have eR : m_ff ts (d + 1) k n s = ff_R ts d t n s none 0 := by
        rw [m_ff, ht]; dsimp only; rw [hj3]; rfl
      refine jv_lo [1, 0, 2, 3, 4, 5, 6] (lo' := [(5, .int (-1)), (6, .int (nI 0)), (0, .ref x), (1, .int (nI e)), (2, .int (nI (10 * e + k))), (3, .int n), (4, .int s)]) rfl ?_
      show jv_V E 7 h 0 0 (jv_Q E (jv_rI (ffE e (m_ff ts (d + 1) k n s)) h) jv_no 0 0) 14 [(5, .int (ffE e none)), (6, .int (nI 0)), (0, .ref x), (1, .int (nI e)), (2, .int (nI (10 * e + k))), (3, .int n), (4, .int s)] []
      rw [eR]; exact loop (mt_f t).length 0 none (fun p hp => by cases hp) (by omega)
    · refine jv_topI (y := nI (6 * (10 * e + k) + j1)) (by rw [hj3]; rfl) ?_
      obtain ⟨m2, hm2, wm2, nm2, sm2, lm2⟩ := m_own_some hj3
      have Mm2 := rt_m hT hm2
      have Om2 := hO.2.2.2.2.2.2 m2 (List.mem_of_getElem? hm2)
      have Lm2 := hO.2.2.2.2.2.1
      have Bm2n := Om2.1; have Bm2s := Om2.2.1; have Bm2a := Om2.2.2.1
      refine jv_istore (q := 11) (lo' := [(5, .int (nI (6 * (10 * e + k) + j1))), (0, .ref x), (1, .int (nI e)), (2, .int (nI (10 * e + k))), (3, .int n), (4, .int s)]) G dX8_findField_9 (by decide) rfl rfl ?_
      refine jv_iconst (q := 12) (v := nI 0) G dX8_findField_11 (by decide) rfl ?_
      refine jv_istore (q := 14) (lo' := [(6, .int (nI 0)), (5, .int (nI (6 * (10 * e + k) + j1))), (0, .ref x), (1, .int (nI e)), (2, .int (nI (10 * e + k))), (3, .int n), (4, .int s)]) G dX8_findField_12 (by decide) rfl rfl ?_
      have eR : m_ff ts (d + 1) k n s = ff_R ts d t n s (some (k, j1)) 0 := by
        rw [m_ff, ht]; dsimp only; rw [hj3]; rfl
      refine jv_lo [1, 0, 2, 3, 4, 5, 6] (lo' := [(5, .int (nI (6 * (10 * e + k) + j1))), (6, .int (nI 0)), (0, .ref x), (1, .int (nI e)), (2, .int (nI (10 * e + k))), (3, .int n), (4, .int s)]) rfl ?_
      show jv_V E 7 h 0 0 (jv_Q E (jv_rI (ffE e (m_ff ts (d + 1) k n s)) h) jv_no 0 0) 14 [(5, .int (ffE e (some (k, j1)))), (6, .int (nI 0)), (0, .ref x), (1, .int (nI e)), (2, .int (nI (10 * e + k))), (3, .int n), (4, .int s)] []
      rw [eR]; exact loop (mt_f t).length 0 _ (fun p hp => by cases hp; exact ⟨by omega, by omega⟩) (by omega)
