theorem cm_lt {z : Nat → Nat → Nat} {T : Nat → Nat} {N : Nat → Nat → Nat} {h : jv_H} {e : Nat} {ts : List mT} (hE : cv_E z T N h e ts) {Us : Nat → List Nat} (hU : cv_Us z T h e ts Us) {ko : Option Nat} {U : List Nat} : ∀ n, (c_cm ts Us ko U n).1 < 2 ^ 16 ∧ (c_cm ts Us ko U n).2 < 2 ^ 16
  | 0 => ⟨by rw [c_cm]; decide, by rw [c_cm]; decide⟩
  | n + 1 => by
    have ih := cm_lt hE hU (ko := ko) (U := U) n
    rw [c_cm]
    cases hv : U[n]? with
    | none => exact ih
    | some v =>
      dsimp only
      cases hm : m_at ts (nI v) with
      | none => exact ih
      | some j =>
        obtain ⟨t, ht, -⟩ := m_at_get hm
        dsimp only
        rw [ht]
        dsimp only
        split
        · exact ⟨Nat.or_lt_two_pow ih.1 (Nat.pow_lt_pow_right (by decide) (hE.2.2.2.2.1 j t ht).2.1), Nat.or_lt_two_pow ih.2 (um_lt (hU j (jv_ltGet ht)).2.2)⟩
        · exact ih
theorem cd_lt {z : Nat → Nat → Nat} {T : Nat → Nat} {N : Nat → Nat → Nat} {h : jv_H} {e : Nat} {ts : List mT} (hE : cv_E z T N h e ts) {Us : Nat → List Nat} (hU : cv_Us z T h e ts Us) {ko : Option Nat} {k : Nat} : c_cd ts Us k ko < 2 ^ 16 := nd_lt (cm_lt hE hU _).1
def c_fd (ts : List mT) (Us : Nat → List Nat) (k : Nat) (w : Bool) (ko : Option Nat) : Option Nat := if ko.isNone then none else if w then match c_nw ts ko 10 (some k) with
    | some j => some j
    | none => match m_only (c_op ts (c_cd ts Us k ko) ko) ts.length with
      | some j => some j
      | none => c_fo ts (c_cd ts Us k ko)
  else c_hf ts Us k ko
theorem nw_get {ts : List mT} {ko : Option Nat} : ∀ {n : Nat} {o : Option Nat} {j : Nat}, c_nw ts ko n o = some j → ∃ t, ts[j]? = some t ∧ m_has t true ko = true
  | 0, o, j, h => by cases o <;> cases h
  | n + 1, none, j, h => by cases h
  | n + 1, some k, j, h => by
    rw [c_nw] at h
    cases ht : ts[k]? with
    | none => rw [ht] at h; cases h
    | some t =>
      rw [ht] at h
      dsimp only at h
      split at h
      · cases h; exact ⟨t, ht, by assumption⟩
      · exact nw_get h
theorem only_get {ts : List mT} {p : Nat → Bool} {j : Nat} (h : m_only p ts.length = some j) : ∃ t, ts[j]? = some t ∧ p j = true := by
  unfold m_only at h
  split at h
  · obtain ⟨h1, h2⟩ := m_last_lt h
    exact ⟨ts[j], List.getElem?_eq_getElem h1, h2⟩
  · cases h
theorem fo_get {ts : List mT} {n j : Nat} (h : c_fo ts n = some j) : ∃ t, ts[j]? = some t ∧ n.testBit (mt_n t) = true := by
  obtain ⟨-, h2, h3, -⟩ := sf_some h
  have h2 : j < ts.length := by omega
  refine ⟨ts[j], List.getElem?_eq_getElem h2, ?_⟩
  rw [List.getElem?_eq_getElem h2] at h3
  exact h3
set_option maxHeartbeats 4000000 in
set_option maxRecDepth 100000 in
theorem k_cd_loop {E : jv_E} {Q : State → Prop} {z : Nat → Nat → Nat} {T : Nat → Nat} {N : Nat → Nat → Nat} {h : jv_H} {e : Nat} {ts : List mT} (hE : cv_E z T N h e ts) {Us : Nat → List Nat} (hU : cv_Us z T h e ts Us) {k0 : Nat} {t0 : mT} (ht0 : ts[k0]? = some t0) {ko : Option Nat} (hK : ∀ K, ko = some K → K < 64) (hlt : (jv_l E).stackTraces = false) (G : jv_C E cX2_candidatesOf RX2 8) (Z : jv_rm E = jv_room 2 0 0) (hk : jv_V E 8 h 0 0 Q 95 [(3, .int (nI ((c_cm ts Us ko (Us k0) (Us k0).length).1))), (4, .int (nI ((c_cm ts Us ko (Us k0) (Us k0).length).2)))] []) : ∀ (n i : Nat), i + n = (Us k0).length → jv_V E 8 h 0 0 Q 8 [(5, .int (nI i)), (3, .int (nI ((c_cm ts Us ko (Us k0) i).1))), (4, .int (nI ((c_cm ts Us ko (Us k0) i).2))), (0, .ref (z 0 e)), (1, .ref (T (10 * e + k0))), (2, .int (jv_oN ko))] [] := by
  intro n
  induction n with
  | zero =>
    intro i hn
    have lt0 := jv_ltGet ht0
    have k10t0 : k0 < 10 := by have := hE.2.2.2.1; omega
    have Ot0 := (hE.2.2.2.2.1 k0 t0 ht0).2
    have Vt0 := (hE.2.2.2.2.1 k0 t0 ht0).1
    have Yt0 := hE.2.1 k0 k10t0
    have bt0n := Ot0.1; have bt0k := Ot0.2.1
    have Ut0 := hU k0 lt0
    have umt0 := um_lt Ut0.2.2
    have ult0 := Ut0.2.1
    have hcm := cm_lt hE hU (ko := ko) (U := Us k0) i
    refine jv_iload (q := 10) G 0 dX2_candidatesOf_8 rfl rfl ?_
    refine jv_aload_n (q := 11) G 4 dX2_candidatesOf_10 rfl rfl rfl ?_
    refine jv_getI (q := 14) G dX2_candidatesOf_11 fl_X2_111 rfl (hE.2.1 k0 k10t0).1 Ut0.1.1 rfl ?_
    refine jv_icmp_geN (q := 17) (tgt := 95) G dX2_candidatesOf_14 (by decide) rfl (by omega) (by omega) (fun c1 => ?_) (fun c1 => ?_)
    · refine jv_lo [1, 2] (lo' := [(3, .int (nI ((c_cm ts Us ko (Us k0) i).1))), (4, .int (nI ((c_cm ts Us ko (Us k0) i).2)))]) rfl ?_
      rw [show i = (Us k0).length by omega]; exact hk
    · omega
  | succ n ih =>
    intro i hn
    have lt0 := jv_ltGet ht0
    have k10t0 : k0 < 10 := by have := hE.2.2.2.1; omega
    have Ot0 := (hE.2.2.2.2.1 k0 t0 ht0).2
    have Vt0 := (hE.2.2.2.2.1 k0 t0 ht0).1
    have Yt0 := hE.2.1 k0 k10t0
    have bt0n := Ot0.1; have bt0k := Ot0.2.1
    have Ut0 := hU k0 lt0
    have umt0 := um_lt Ut0.2.2
    have ult0 := Ut0.2.1
    have hcm := cm_lt hE hU (ko := ko) (U := Us k0) i
    obtain ⟨v, hv⟩ := jv_getLt (l := Us k0) (k := i) (by omega)
    have hf := Ut0.1.2.2 i v hv
    refine jv_iload (q := 10) G 0 dX2_candidatesOf_8 rfl rfl ?_
    refine jv_aload_n (q := 11) G 4 dX2_candidatesOf_10 rfl rfl rfl ?_
    refine jv_getI (q := 14) G dX2_candidatesOf_11 fl_X2_111 rfl (hE.2.1 k0 k10t0).1 Ut0.1.1 rfl ?_
    refine jv_icmp_geN (q := 17) (tgt := 95) G dX2_candidatesOf_14 (by decide) rfl (by omega) (by omega) (fun c1 => ?_) (fun c1 => ?_)
    · omega
    · refine jv_aload_n (q := 18) G 3 dX2_candidatesOf_17 rfl rfl rfl ?_
      refine jv_aload_n (q := 19) G 4 dX2_candidatesOf_18 rfl rfl rfl ?_
      refine jv_getQ (q := 22) G dX2_candidatesOf_19 fl_X2_114 rfl (hE.2.1 k0 k10t0).1 (hE.2.1 k0 k10t0).2.2.2.2.2.1 rfl ?_
      refine jv_iload (q := 24) G 0 dX2_candidatesOf_22 rfl rfl ?_
      refine jv_iald (q := 25) G dX2_candidatesOf_24 (hE.2.1 k0 k10t0).2.2.2.2.2.2.1 rfl (by omega) (by decide) hf rfl ?_
      refine jv_callV_R (q := 28) (h1 := h) (As := [.int (nI v)]) (rest := []) (ce' := 0) (sl' := 0) (r := ((m_at ts (nI v)).map (fun k => T (10 * e + k)))) G Z ml_X2_25 (k_named hlt hE) hE.1.1 dX2_candidatesOf_25 rfl (by decide) (by decide) (by decide) (by decide) (Nat.le_of_ble_eq_true rfl) rfl rfl rfl rfl ?_
      rcases Option.eq_none_or_eq_some (m_at ts (nI v)) with hk4 | ⟨k2, hk4⟩
      · refine jv_topR (y := none) (by rw [hk4]; rfl) ?_
        refine jv_astoreR (q := 30) (lo' := [(6, va_rf none), (5, .int (nI i)), (3, .int (nI ((c_cm ts Us ko (Us k0) i).1))), (4, .int (nI ((c_cm ts Us ko (Us k0) i).2))), (0, .ref (z 0 e)), (1, .ref (T (10 * e + k0))), (2, .int (jv_oN ko))]) (x := none) G dX2_candidatesOf_28 (by decide) rfl rfl ?_
        refine jv_aloadR (q := 32) G 0 dX2_candidatesOf_30 rfl rfl ?_
        refine jv_ifnull (q := 35) (tgt := 43) (x := none) G dX2_candidatesOf_32 (by decide) rfl (fun c5 => ?_) (fun a6 c5 => ?_)
        · refine jv_null (q := 44) G dX2_candidatesOf_43 rfl ?_
          refine jv_goto (q := 54) G dX2_candidatesOf_44 (by decide) ?_
          refine jv_astoreR (q := 56) (lo' := [(7, va_rf none), (6, va_rf none), (5, .int (nI i)), (3, .int (nI ((c_cm ts Us ko (Us k0) i).1))), (4, .int (nI ((c_cm ts Us ko (Us k0) i).2))), (0, .ref (z 0 e)), (1, .ref (T (10 * e + k0))), (2, .int (jv_oN ko))]) (x := none) G dX2_candidatesOf_54 (by decide) rfl rfl ?_
          refine jv_aloadR (q := 58) G 0 dX2_candidatesOf_56 rfl rfl ?_
          refine jv_ifnull (q := 61) (tgt := 89) (x := none) G dX2_candidatesOf_58 (by decide) rfl (fun c7 => ?_) (fun a8 c7 => ?_)
          · refine jv_iinc (q := 92) (lo' := [(5, .int (nI (i + 1))), (7, va_rf none), (6, va_rf none), (3, .int (nI ((c_cm ts Us ko (Us k0) i).1))), (4, .int (nI ((c_cm ts Us ko (Us k0) i).2))), (0, .ref (z 0 e)), (1, .ref (T (10 * e + k0))), (2, .int (jv_oN ko))]) (v := nI (i + 1)) G 2 dX2_candidatesOf_89 rfl (nI_1 i) (by decide) rfl rfl ?_
            refine jv_goto (q := 8) G dX2_candidatesOf_92 (by decide) ?_
            refine jv_lo [0, 3, 4, 5, 6, 7] (lo' := [(5, .int (nI (i + 1))), (3, .int (nI ((c_cm ts Us ko (Us k0) i).1))), (4, .int (nI ((c_cm ts Us ko (Us k0) i).2))), (0, .ref (z 0 e)), (1, .ref (T (10 * e + k0))), (2, .int (jv_oN ko))]) rfl ?_
            have ec : ((c_cm ts Us ko (Us k0) i).1, (c_cm ts Us ko (Us k0) i).2) = (c_cm ts Us ko (Us k0) (i + 1)) := by
              rw [c_cm, hv]; dsimp only; rw [hk4]
            have e3 := congrArg Prod.fst ec; have e4 := congrArg Prod.snd ec
            dsimp only at e3 e4
            rw [e3, e4]; exact ih (i + 1) (by omega)
          · cases c7
        · cases c5
      · refine jv_topR (y := (some (T (10 * e + k2)))) (by rw [hk4]; rfl) ?_
        obtain ⟨t3, ht3, nt3⟩ := m_at_get hk4
        have lt3 := jv_ltGet ht3
        have k10t3 : k2 < 10 := by have := hE.2.2.2.1; omega
        have Ot3 := (hE.2.2.2.2.1 k2 t3 ht3).2
        have Vt3 := (hE.2.2.2.2.1 k2 t3 ht3).1
        have Yt3 := hE.2.1 k2 k10t3
        have bt3n := Ot3.1; have bt3k := Ot3.2.1
        refine jv_astore (q := 30) (lo' := [(6, .ref (T (10 * e + k2))), (5, .int (nI i)), (3, .int (nI ((c_cm ts Us ko (Us k0) i).1))), (4, .int (nI ((c_cm ts Us ko (Us k0) i).2))), (0, .ref (z 0 e)), (1, .ref (T (10 * e + k0))), (2, .int (jv_oN ko))]) G dX2_candidatesOf_28 (by decide) rfl rfl ?_
        refine jv_aload (q := 32) G 0 dX2_candidatesOf_30 rfl rfl ?_
        refine jv_ifnull (q := 35) (tgt := 43) (x := (some (T (10 * e + k2)))) G dX2_candidatesOf_32 (by decide) rfl (fun c9 => ?_) (fun a10 c9 => ?_)
        · cases c9
        · refine jv_aload (q := 37) G 0 dX2_candidatesOf_35 rfl rfl ?_
          refine jv_getZ (q := 40) G dX2_candidatesOf_37 fl_X2_29 rfl (hE.2.1 k2 k10t3).1 (ct_1 (hE.2.2.2.2.1 k2 t3 ht3).1) rfl ?_
          refine jv_if_neB (q := 43) (tgt := 47) G dX2_candidatesOf_40 (by decide) rfl (fun c11 => ?_) (fun c11 => ?_)
          · refine jv_aload (q := 49) G 0 dX2_candidatesOf_47 rfl rfl ?_
            refine jv_iconst (q := 50) (v := nI 1) G dX2_candidatesOf_49 (by decide) rfl ?_
            refine jv_iload_n (q := 51) G 6 dX2_candidatesOf_50 rfl rfl rfl ?_
            refine jv_callV_R (q := 54) (h1 := h) (As := [.int (nI 1), .int (jv_oN ko)]) (rest := []) (ce' := 0) (sl' := 0) (r := ((m_oc t3 true ko).map (N (T (10 * e + k2))))) G Z ml_X2_117 (k_own (w := true) (ko := ko) hlt Yt3 Vt3 Ot3 hK) (hE.2.1 k2 k10t3).1 dX2_candidatesOf_51 rfl (by decide) (by decide) (by decide) (by decide) (Nat.le_of_ble_eq_true rfl) rfl rfl rfl rfl ?_
            rcases Option.eq_none_or_eq_some (m_oc t3 true ko) with hj14 | ⟨j12, hj14⟩
            · refine jv_topR (y := none) (by rw [hj14]; rfl) ?_
              refine jv_astoreR (q := 56) (lo' := [(7, va_rf none), (6, .ref (T (10 * e + k2))), (5, .int (nI i)), (3, .int (nI ((c_cm ts Us ko (Us k0) i).1))), (4, .int (nI ((c_cm ts Us ko (Us k0) i).2))), (0, .ref (z 0 e)), (1, .ref (T (10 * e + k0))), (2, .int (jv_oN ko))]) (x := none) G dX2_candidatesOf_54 (by decide) rfl rfl ?_
              refine jv_aloadR (q := 58) G 0 dX2_candidatesOf_56 rfl rfl ?_
              refine jv_ifnull (q := 61) (tgt := 89) (x := none) G dX2_candidatesOf_58 (by decide) rfl (fun c15 => ?_) (fun a16 c15 => ?_)
              · refine jv_iinc (q := 92) (lo' := [(5, .int (nI (i + 1))), (7, va_rf none), (6, .ref (T (10 * e + k2))), (3, .int (nI ((c_cm ts Us ko (Us k0) i).1))), (4, .int (nI ((c_cm ts Us ko (Us k0) i).2))), (0, .ref (z 0 e)), (1, .ref (T (10 * e + k0))), (2, .int (jv_oN ko))]) (v := nI (i + 1)) G 2 dX2_candidatesOf_89 rfl (nI_1 i) (by decide) rfl rfl ?_
                refine jv_goto (q := 8) G dX2_candidatesOf_92 (by decide) ?_
                refine jv_lo [0, 3, 4, 5, 6, 7] (lo' := [(5, .int (nI (i + 1))), (3, .int (nI ((c_cm ts Us ko (Us k0) i).1))), (4, .int (nI ((c_cm ts Us ko (Us k0) i).2))), (0, .ref (z 0 e)), (1, .ref (T (10 * e + k0))), (2, .int (jv_oN ko))]) rfl ?_
                have ec : ((c_cm ts Us ko (Us k0) i).1, (c_cm ts Us ko (Us k0) i).2) = (c_cm ts Us ko (Us k0) (i + 1)) := by
                  rw [c_cm, hv]; dsimp only; rw [hk4]
                  dsimp only; rw [ht3]; dsimp only
                  rw [if_neg (by simp [c11, hj14])]
                have e3 := congrArg Prod.fst ec; have e4 := congrArg Prod.snd ec
                dsimp only at e3 e4
                rw [e3, e4]; exact ih (i + 1) (by omega)
              · cases c15
            · refine jv_topR (y := (some (N (T (10 * e + k2)) j12))) (by rw [hj14]; rfl) ?_
              obtain ⟨m13, hm13, wm13, km13⟩ := oc_some hj14
              have lm13 := jv_ltGet hm13
              have Om13 := Ot3.2.2.2.2.2.2 m13 (List.mem_of_getElem? hm13)
              have Vm13 := ct_m Vt3 hm13
              have j6m13 : j12 < 6 := by have := Ot3.2.2.2.2.2.1; omega
              have bm13a := Om13.2.2.1
              refine jv_astore (q := 56) (lo' := [(7, .ref (N (T (10 * e + k2)) j12)), (6, .ref (T (10 * e + k2))), (5, .int (nI i)), (3, .int (nI ((c_cm ts Us ko (Us k0) i).1))), (4, .int (nI ((c_cm ts Us ko (Us k0) i).2))), (0, .ref (z 0 e)), (1, .ref (T (10 * e + k0))), (2, .int (jv_oN ko))]) G dX2_candidatesOf_54 (by decide) rfl rfl ?_
              refine jv_aload (q := 58) G 0 dX2_candidatesOf_56 rfl rfl ?_
              refine jv_ifnull (q := 61) (tgt := 89) (x := (some (N (T (10 * e + k2)) j12))) G dX2_candidatesOf_58 (by decide) rfl (fun c17 => ?_) (fun a18 c17 => ?_)
              · cases c17
              · refine jv_aload (q := 63) G 0 dX2_candidatesOf_61 rfl rfl ?_
                refine jv_callV_I (q := 66) (h1 := h) (As := []) (rest := []) (ce' := 0) (sl' := 0) (r := jv_bI (m_hd m13)) G Z ml_X2_121 (k_isHanded hlt (Yt3.2.2.2.2.2.2.2 j12 j6m13).2 Vm13 Om13) (Yt3.2.2.2.2.2.2.2 j12 j6m13).2 dX2_candidatesOf_63 rfl (by decide) (by decide) (by decide) (by decide) (Nat.le_of_ble_eq_true rfl) rfl rfl rfl rfl ?_
                refine jv_if_eqB (q := 69) (tgt := 89) G dX2_candidatesOf_66 (by decide) rfl (fun c19 => ?_) (fun c19 => ?_)
                · refine jv_iinc (q := 92) (lo' := [(5, .int (nI (i + 1))), (7, .ref (N (T (10 * e + k2)) j12)), (6, .ref (T (10 * e + k2))), (3, .int (nI ((c_cm ts Us ko (Us k0) i).1))), (4, .int (nI ((c_cm ts Us ko (Us k0) i).2))), (0, .ref (z 0 e)), (1, .ref (T (10 * e + k0))), (2, .int (jv_oN ko))]) (v := nI (i + 1)) G 2 dX2_candidatesOf_89 rfl (nI_1 i) (by decide) rfl rfl ?_
                  refine jv_goto (q := 8) G dX2_candidatesOf_92 (by decide) ?_
                  refine jv_lo [0, 3, 4, 5, 6, 7] (lo' := [(5, .int (nI (i + 1))), (3, .int (nI ((c_cm ts Us ko (Us k0) i).1))), (4, .int (nI ((c_cm ts Us ko (Us k0) i).2))), (0, .ref (z 0 e)), (1, .ref (T (10 * e + k0))), (2, .int (jv_oN ko))]) rfl ?_
                  have ec : ((c_cm ts Us ko (Us k0) i).1, (c_cm ts Us ko (Us k0) i).2) = (c_cm ts Us ko (Us k0) (i + 1)) := by
                    rw [c_cm, hv]; dsimp only; rw [hk4]
                    dsimp only; rw [ht3]; dsimp only
                    rw [if_neg (by simp [c11, c19, hj14, hm13])]
                  have e3 := congrArg Prod.fst ec; have e4 := congrArg Prod.snd ec
                  dsimp only at e3 e4
                  rw [e3, e4]; exact ih (i + 1) (by omega)
                · refine jv_iload_n (q := 70) G 3 dX2_candidatesOf_69 rfl rfl rfl ?_
                  refine jv_iconst (q := 71) (v := nI 1) G dX2_candidatesOf_70 (by decide) rfl ?_
                  refine jv_aload (q := 73) G 1 dX2_candidatesOf_71 rfl rfl ?_
                  refine jv_getI (q := 76) G dX2_candidatesOf_73 fl_X2_40 rfl (hE.2.1 k2 k10t3).1 (ct_0 (hE.2.2.2.2.1 k2 t3 ht3).1) rfl ?_
                  refine jv_ishlN (q := 77) G dX2_candidatesOf_76 (by omega) rfl ?_
                  refine jv_iorN (q := 78) G dX2_candidatesOf_77 rfl ?_
                  refine jv_istore_n (q := 79) (lo' := [(3, .int (nI (((c_cm ts Us ko (Us k0) i).1) ||| (2 ^ (mt_n t3))))), (7, .ref (N (T (10 * e + k2)) j12)), (6, .ref (T (10 * e + k2))), (5, .int (nI i)), (4, .int (nI ((c_cm ts Us ko (Us k0) i).2))), (0, .ref (z 0 e)), (1, .ref (T (10 * e + k0))), (2, .int (jv_oN ko))]) G dX2_candidatesOf_78 rfl (by decide) rfl rfl ?_
                  have Ut3 := hU k2 lt3
                  have umt3 := um_lt Ut3.2.2
                  have ult3 := Ut3.2.1
                  refine jv_iload (q := 81) G 4 dX2_candidatesOf_79 rfl rfl ?_
                  refine jv_aload (q := 83) G 2 dX2_candidatesOf_81 rfl rfl ?_
                  refine jv_getI (q := 86) G dX2_candidatesOf_83 fl_X2_127 rfl (hE.2.1 k2 k10t3).1 Ut3.1.2.1 rfl ?_
                  refine jv_iorN (q := 87) G dX2_candidatesOf_86 rfl ?_
                  refine jv_istore (q := 89) (lo' := [(4, .int (nI (((c_cm ts Us ko (Us k0) i).2) ||| (m_um (Us k2))))), (3, .int (nI (((c_cm ts Us ko (Us k0) i).1) ||| (2 ^ (mt_n t3))))), (7, .ref (N (T (10 * e + k2)) j12)), (6, .ref (T (10 * e + k2))), (5, .int (nI i)), (0, .ref (z 0 e)), (1, .ref (T (10 * e + k0))), (2, .int (jv_oN ko))]) G dX2_candidatesOf_87 (by decide) rfl rfl ?_
                  refine jv_iinc (q := 92) (lo' := [(5, .int (nI (i + 1))), (4, .int (nI (((c_cm ts Us ko (Us k0) i).2) ||| (m_um (Us k2))))), (3, .int (nI (((c_cm ts Us ko (Us k0) i).1) ||| (2 ^ (mt_n t3))))), (7, .ref (N (T (10 * e + k2)) j12)), (6, .ref (T (10 * e + k2))), (0, .ref (z 0 e)), (1, .ref (T (10 * e + k0))), (2, .int (jv_oN ko))]) (v := nI (i + 1)) G 4 dX2_candidatesOf_89 rfl (nI_1 i) (by decide) rfl rfl ?_
                  refine jv_goto (q := 8) G dX2_candidatesOf_92 (by decide) ?_
                  refine jv_lo [0, 2, 1, 5, 6, 7] (lo' := [(5, .int (nI (i + 1))), (3, .int (nI (((c_cm ts Us ko (Us k0) i).1) ||| (2 ^ (mt_n t3))))), (4, .int (nI (((c_cm ts Us ko (Us k0) i).2) ||| (m_um (Us k2))))), (0, .ref (z 0 e)), (1, .ref (T (10 * e + k0))), (2, .int (jv_oN ko))]) rfl ?_
                  have ec : (((c_cm ts Us ko (Us k0) i).1) ||| (2 ^ (mt_n t3)), ((c_cm ts Us ko (Us k0) i).2) ||| (m_um (Us k2))) = (c_cm ts Us ko (Us k0) (i + 1)) := by
                    rw [c_cm, hv]; dsimp only; rw [hk4]
                    dsimp only; rw [ht3]; dsimp only
                    rw [if_pos (by simp [c11, c19, hj14, hm13])]
                  have e3 := congrArg Prod.fst ec; have e4 := congrArg Prod.snd ec
                  dsimp only at e3 e4
                  rw [e3, e4]; exact ih (i + 1) (by omega)
          · refine jv_null (q := 44) G dX2_candidatesOf_43 rfl ?_
            refine jv_goto (q := 54) G dX2_candidatesOf_44 (by decide) ?_
            refine jv_astoreR (q := 56) (lo' := [(7, va_rf none), (6, .ref (T (10 * e + k2))), (5, .int (nI i)), (3, .int (nI ((c_cm ts Us ko (Us k0) i).1))), (4, .int (nI ((c_cm ts Us ko (Us k0) i).2))), (0, .ref (z 0 e)), (1, .ref (T (10 * e + k0))), (2, .int (jv_oN ko))]) (x := none) G dX2_candidatesOf_54 (by decide) rfl rfl ?_
            refine jv_aloadR (q := 58) G 0 dX2_candidatesOf_56 rfl rfl ?_
            refine jv_ifnull (q := 61) (tgt := 89) (x := none) G dX2_candidatesOf_58 (by decide) rfl (fun c20 => ?_) (fun a21 c20 => ?_)
            · refine jv_iinc (q := 92) (lo' := [(5, .int (nI (i + 1))), (7, va_rf none), (6, .ref (T (10 * e + k2))), (3, .int (nI ((c_cm ts Us ko (Us k0) i).1))), (4, .int (nI ((c_cm ts Us ko (Us k0) i).2))), (0, .ref (z 0 e)), (1, .ref (T (10 * e + k0))), (2, .int (jv_oN ko))]) (v := nI (i + 1)) G 2 dX2_candidatesOf_89 rfl (nI_1 i) (by decide) rfl rfl ?_
              refine jv_goto (q := 8) G dX2_candidatesOf_92 (by decide) ?_
              refine jv_lo [0, 3, 4, 5, 6, 7] (lo' := [(5, .int (nI (i + 1))), (3, .int (nI ((c_cm ts Us ko (Us k0) i).1))), (4, .int (nI ((c_cm ts Us ko (Us k0) i).2))), (0, .ref (z 0 e)), (1, .ref (T (10 * e + k0))), (2, .int (jv_oN ko))]) rfl ?_
              have ec : ((c_cm ts Us ko (Us k0) i).1, (c_cm ts Us ko (Us k0) i).2) = (c_cm ts Us ko (Us k0) (i + 1)) := by
                rw [c_cm, hv]; dsimp only; rw [hk4]
                dsimp only; rw [ht3]; dsimp only
                rw [if_neg (by simp [c11])]
              have e3 := congrArg Prod.fst ec; have e4 := congrArg Prod.snd ec
              dsimp only at e3 e4
              rw [e3, e4]; exact ih (i + 1) (by omega)
            · cases c20
set_option maxHeartbeats 4000000 in
set_option maxRecDepth 100000 in
theorem k_candidatesOf {lA : Launch} (hlt : lA.stackTraces = false) {D : jv_D} {base : Nat} {z : Nat → Nat → Nat} {T : Nat → Nat} {N : Nat → Nat → Nat} {h : jv_H} {e : Nat} {ts : List mT} (hE : cv_E z T N h e ts) {Us : Nat → List Nat} (hU : cv_Us z T h e ts Us) {k0 : Nat} {t0 : mT} (ht0 : ts[k0]? = some t0) {ko : Option Nat} (hK : ∀ K, ko = some K → K < 64) : jv_Met lA D base yX2_candidatesOf (.code yX2_candidatesOf cX2_candidatesOf 8 (some .int)) 2 0 0 [.ref (z 0 e), .ref (T (10 * e + k0)), .int (jv_oN ko)] h (jv_rI (nI (c_cd ts Us k0 ko)) h) jv_no := by
  refine jv_ofV (lo := [(0, .ref (z 0 e)), (1, .ref (T (10 * e + k0))), (2, .int (jv_oN ko))]) hlt (by decide) (Nat.le_of_ble_eq_true rfl) rfl (fun E hEl hEd hEz Z G hr ht hnm => ?_)
  subst hEl; subst hEd; subst hEz
  have lt0 := jv_ltGet ht0
  have k10t0 : k0 < 10 := by have := hE.2.2.2.1; omega
  have Ot0 := (hE.2.2.2.2.1 k0 t0 ht0).2
  have Vt0 := (hE.2.2.2.2.1 k0 t0 ht0).1
  have Yt0 := hE.2.1 k0 k10t0
  have bt0n := Ot0.1; have bt0k := Ot0.2.1
  have hcm := cm_lt hE hU (ko := ko) (U := Us k0) (Us k0).length
  refine jv_iconst (q := 1) (v := nI 0) G dX2_candidatesOf_0 (by decide) rfl ?_
  refine jv_istore_n (q := 2) (lo' := [(3, .int (nI 0)), (0, .ref (z 0 e)), (1, .ref (T (10 * e + k0))), (2, .int (jv_oN ko))]) G dX2_candidatesOf_1 rfl (by decide) rfl rfl ?_
  refine jv_iconst (q := 3) (v := nI 0) G dX2_candidatesOf_2 (by decide) rfl ?_
  refine jv_istore (q := 5) (lo' := [(4, .int (nI 0)), (3, .int (nI 0)), (0, .ref (z 0 e)), (1, .ref (T (10 * e + k0))), (2, .int (jv_oN ko))]) G dX2_candidatesOf_3 (by decide) rfl rfl ?_
  refine jv_iconst (q := 6) (v := nI 0) G dX2_candidatesOf_5 (by decide) rfl ?_
  refine jv_istore (q := 8) (lo' := [(5, .int (nI 0)), (4, .int (nI 0)), (3, .int (nI 0)), (0, .ref (z 0 e)), (1, .ref (T (10 * e + k0))), (2, .int (jv_oN ko))]) G dX2_candidatesOf_6 (by decide) rfl rfl ?_
  show jv_V E 8 h 0 0 (jv_Q E (jv_rI (nI (c_cd ts Us k0 ko)) h) jv_no 0 0) 8 [(5, .int (nI 0)), (4, .int (nI ((c_cm ts Us ko (Us k0) 0).2))), (3, .int (nI ((c_cm ts Us ko (Us k0) 0).1))), (0, .ref (z 0 e)), (1, .ref (T (10 * e + k0))), (2, .int (jv_oN ko))] []
  refine jv_lo [0, 2, 1, 3, 4, 5] (lo' := [(5, .int (nI 0)), (3, .int (nI ((c_cm ts Us ko (Us k0) 0).1))), (4, .int (nI ((c_cm ts Us ko (Us k0) 0).2))), (0, .ref (z 0 e)), (1, .ref (T (10 * e + k0))), (2, .int (jv_oN ko))]) rfl ?_
  refine k_cd_loop hE hU ht0 hK hlt G Z ?_ (Us k0).length 0 (by omega)
  refine jv_iload_n (q := 96) G 0 dX2_candidatesOf_95 rfl rfl rfl ?_
  refine jv_iload (q := 98) G 1 dX2_candidatesOf_96 rfl rfl ?_
  refine jv_iconst (q := 99) (v := (-1)) G dX2_candidatesOf_98 (by decide) rfl ?_
  refine jv_ixor (q := 100) G dX2_candidatesOf_99 rfl ?_
  refine jv_iand (q := 101) G dX2_candidatesOf_100 rfl ?_
  refine jv_iret G hr dX2_candidatesOf_101 (Nat.le_of_ble_eq_true rfl) (Nat.le_of_ble_eq_true rfl) ?_
  refine ⟨?_, rfl⟩; rw [nd_I (by omega)]; rfl
set_option maxHeartbeats 4000000 in
set_option maxRecDepth 100000 in
theorem k_found1 {lA : Launch} (hlt : lA.stackTraces = false) {D : jv_D} {base : Nat} {z : Nat → Nat → Nat} {T : Nat → Nat} {N : Nat → Nat → Nat} {h : jv_H} {e : Nat} {ts : List mT} (hE : cv_E z T N h e ts) {Us : Nat → List Nat} (hU : cv_Us z T h e ts Us) {k0 : Nat} {t0 : mT} (ht0 : ts[k0]? = some t0) {ko : Option Nat} (hK : ∀ K, ko = some K → K < 64) {w : Bool} : jv_Met lA D base yX2_found (.code yX2_found cX2_found 7 (some (.object "LinkArchive$Type"))) 3 0 0 [.ref (z 0 e), .ref (T (10 * e + k0)), .int (jv_bI w), .int (jv_oN ko)] h (jv_rR ((c_fd ts Us k0 w ko).map (fun k => T (10 * e + k))) h) jv_no := by
  refine jv_ofV (lo := [(0, .ref (z 0 e)), (1, .ref (T (10 * e + k0))), (2, .int (jv_bI w)), (3, .int (jv_oN ko))]) hlt (by decide) (Nat.le_of_ble_eq_true rfl) rfl (fun E hEl hEd hEz Z G hr ht hnm => ?_)
  subst hEl; subst hEd; subst hEz
  have lt0 := jv_ltGet ht0
  have k10t0 : k0 < 10 := by have := hE.2.2.2.1; omega
  have Ot0 := (hE.2.2.2.2.1 k0 t0 ht0).2
  have Vt0 := (hE.2.2.2.2.1 k0 t0 ht0).1
  have Yt0 := hE.2.1 k0 k10t0
  have bt0n := Ot0.1; have bt0k := Ot0.2.1
  cases hko : ko with
  | none =>
    rw [← hko]
    refine jv_aload_n (q := 1) G 1 dX2_found_0 rfl rfl rfl ?_
    refine jv_ifnull (q := 4) (tgt := 9) (x := (some (T (10 * e + k0)))) G dX2_found_1 (by decide) rfl (fun c1 => ?_) (fun a2 c1 => ?_)
    · cases c1
    · refine jv_iload_n (q := 5) G 3 dX2_found_4 rfl rfl rfl ?_
      refine jv_iconst (q := 6) (v := (-1)) G dX2_found_5 (by decide) rfl ?_
      refine jv_icmp_ne (q := 9) (tgt := 11) G dX2_found_6 (by decide) rfl (fun c3 => ?_) (fun c3 => ?_)
      · rw [hko] at c3; exact absurd rfl c3
      · refine jv_null (q := 10) G dX2_found_9 rfl ?_
        refine jv_aretN G hr dX2_found_10 (Nat.le_of_ble_eq_true rfl) (Nat.le_of_ble_eq_true rfl) ?_
        refine ⟨?_, rfl⟩; unfold c_fd; rw [hko]; rfl
  | some K =>
    rw [← hko]
    refine jv_aload_n (q := 1) G 1 dX2_found_0 rfl rfl rfl ?_
    refine jv_ifnull (q := 4) (tgt := 9) (x := (some (T (10 * e + k0)))) G dX2_found_1 (by decide) rfl (fun c4 => ?_) (fun a5 c4 => ?_)
    · cases c4
    · refine jv_iload_n (q := 5) G 3 dX2_found_4 rfl rfl rfl ?_
      refine jv_iconst (q := 6) (v := (-1)) G dX2_found_5 (by decide) rfl ?_
      refine jv_icmp_ne (q := 9) (tgt := 11) G dX2_found_6 (by decide) rfl (fun c6 => ?_) (fun c6 => ?_)
      · refine jv_iload_n (q := 12) G 2 dX2_found_11 rfl rfl rfl ?_
        refine jv_if_neB (q := 15) (tgt := 22) G dX2_found_12 (by decide) rfl (fun c7 => ?_) (fun c7 => ?_)
        · refine jv_aload_n (q := 23) G 0 dX2_found_22 rfl rfl rfl ?_
          refine jv_aload_n (q := 24) G 1 dX2_found_23 rfl rfl rfl ?_
          refine jv_iload_n (q := 25) G 3 dX2_found_24 rfl rfl rfl ?_
          refine jv_callV_R (q := 28) (h1 := h) (As := [.ref (T (10 * e + k0)), .int (jv_oN ko)]) (rest := []) (ce' := 0) (sl' := 0) (r := ((c_nw ts ko 10 (some k0)).map (fun k => T (10 * e + k)))) G Z ml_X2_93 (k_nearest hlt hE lt0 hK) hE.1.1 dX2_found_25 rfl (by decide) (by decide) (by decide) (by decide) (Nat.le_of_ble_eq_true rfl) rfl rfl rfl rfl ?_
          rcases Option.eq_none_or_eq_some (c_nw ts ko 10 (some k0)) with hk10 | ⟨k8, hk10⟩
          · refine jv_topR (y := none) (by rw [hk10]; rfl) ?_
            refine jv_astoreR (q := 30) (lo' := [(4, va_rf none), (0, .ref (z 0 e)), (1, .ref (T (10 * e + k0))), (2, .int (jv_bI w)), (3, .int (jv_oN ko))]) (x := none) G dX2_found_28 (by decide) rfl rfl ?_
            refine jv_aloadR (q := 32) G 0 dX2_found_30 rfl rfl ?_
            refine jv_ifnull (q := 35) (tgt := 38) (x := none) G dX2_found_32 (by decide) rfl (fun c11 => ?_) (fun a12 c11 => ?_)
            · refine jv_aload_n (q := 39) G 1 dX2_found_38 rfl rfl rfl ?_
              refine jv_aload_n (q := 40) G 2 dX2_found_39 rfl rfl rfl ?_
              refine jv_iload_n (q := 41) G 4 dX2_found_40 rfl rfl rfl ?_
              refine jv_callV_I (q := 44) (h1 := h) (As := [.ref (T (10 * e + k0)), .int (jv_oN ko)]) (rest := []) (ce' := 0) (sl' := 0) (r := nI (c_cd ts Us k0 ko)) G Z ml_X2_96 (k_candidatesOf hlt hE hU ht0 hK) hE.1.1 dX2_found_41 rfl (by decide) (by decide) (by decide) (by decide) (Nat.le_of_ble_eq_true rfl) rfl rfl rfl rfl ?_
              have hcd := cd_lt hE hU (ko := ko) (k := k0)
              refine jv_istore (q := 46) (lo' := [(5, .int (nI (c_cd ts Us k0 ko))), (4, va_rf none), (0, .ref (z 0 e)), (1, .ref (T (10 * e + k0))), (2, .int (jv_bI w)), (3, .int (jv_oN ko))]) G dX2_found_44 (by decide) rfl rfl ?_
              refine jv_aload_n (q := 47) G 2 dX2_found_46 rfl rfl rfl ?_
              refine jv_iload (q := 49) G 0 dX2_found_47 rfl rfl ?_
              refine jv_iload_n (q := 50) G 5 dX2_found_49 rfl rfl rfl ?_
              refine jv_callV_R (q := 53) (h1 := h) (As := [.int (nI (c_cd ts Us k0 ko)), .int (jv_oN ko)]) (rest := []) (ce' := 0) (sl' := 0) (r := ((m_only (c_op ts (c_cd ts Us k0 ko) ko) ts.length).map (fun k => T (10 * e + k)))) G Z ml_X2_100 (k_onlyConcrete hlt hE hcd hK) hE.1.1 dX2_found_50 rfl (by decide) (by decide) (by decide) (by decide) (Nat.le_of_ble_eq_true rfl) rfl rfl rfl rfl ?_
              rcases Option.eq_none_or_eq_some (m_only (c_op ts (c_cd ts Us k0 ko) ko) ts.length) with hk15 | ⟨k13, hk15⟩
              · refine jv_topR (y := none) (by rw [hk15]; rfl) ?_
                refine jv_astoreR (q := 55) (lo' := [(6, va_rf none), (5, .int (nI (c_cd ts Us k0 ko))), (4, va_rf none), (0, .ref (z 0 e)), (1, .ref (T (10 * e + k0))), (2, .int (jv_bI w)), (3, .int (jv_oN ko))]) (x := none) G dX2_found_53 (by decide) rfl rfl ?_
                refine jv_aloadR (q := 57) G 0 dX2_found_55 rfl rfl ?_
                refine jv_ifnull (q := 60) (tgt := 65) (x := none) G dX2_found_57 (by decide) rfl (fun c16 => ?_) (fun a17 c16 => ?_)
                · refine jv_aload_n (q := 66) G 3 dX2_found_65 rfl rfl rfl ?_
                  refine jv_iload (q := 68) G 1 dX2_found_66 rfl rfl ?_
                  refine jv_callV_R (q := 71) (h1 := h) (As := [.int (nI (c_cd ts Us k0 ko))]) (rest := []) (ce' := 0) (sl' := 0) (r := ((c_fo ts (c_cd ts Us k0 ko)).map (fun k => T (10 * e + k)))) G Z ml_X2_104 (k_firstOf hlt hE hcd) hE.1.1 dX2_found_68 rfl (by decide) (by decide) (by decide) (by decide) (Nat.le_of_ble_eq_true rfl) rfl rfl rfl rfl ?_
                  refine jv_aret G hr dX2_found_71 (Nat.le_of_ble_eq_true rfl) (Nat.le_of_ble_eq_true rfl) ?_
                  refine ⟨?_, rfl⟩; unfold c_fd; rw [if_neg (by simp [hko]), if_pos (by simp [c7])]; rw [hk10]; dsimp only; rw [hk15]
                · cases c16
              · refine jv_topR (y := (some (T (10 * e + k13)))) (by rw [hk15]; rfl) ?_
                obtain ⟨t14, ht14, nt14⟩ := only_get hk15
                have lt14 := jv_ltGet ht14
                have k10t14 : k13 < 10 := by have := hE.2.2.2.1; omega
                have Ot14 := (hE.2.2.2.2.1 k13 t14 ht14).2
                have Vt14 := (hE.2.2.2.2.1 k13 t14 ht14).1
                have Yt14 := hE.2.1 k13 k10t14
                have bt14n := Ot14.1; have bt14k := Ot14.2.1
                refine jv_astore (q := 55) (lo' := [(6, .ref (T (10 * e + k13))), (5, .int (nI (c_cd ts Us k0 ko))), (4, va_rf none), (0, .ref (z 0 e)), (1, .ref (T (10 * e + k0))), (2, .int (jv_bI w)), (3, .int (jv_oN ko))]) G dX2_found_53 (by decide) rfl rfl ?_
                refine jv_aload (q := 57) G 0 dX2_found_55 rfl rfl ?_
                refine jv_ifnull (q := 60) (tgt := 65) (x := (some (T (10 * e + k13)))) G dX2_found_57 (by decide) rfl (fun c18 => ?_) (fun a19 c18 => ?_)
                · cases c18
                · refine jv_aload (q := 62) G 0 dX2_found_60 rfl rfl ?_
                  refine jv_goto (q := 71) G dX2_found_62 (by decide) ?_
                  refine jv_aretQ G hr dX2_found_71 (Nat.le_of_ble_eq_true rfl) (Nat.le_of_ble_eq_true rfl) ?_
                  refine ⟨?_, rfl⟩; unfold c_fd; rw [if_neg (by simp [hko]), if_pos (by simp [c7])]; rw [hk10]; dsimp only; rw [hk15]; rfl
            · cases c11
          · refine jv_topR (y := (some (T (10 * e + k8)))) (by rw [hk10]; rfl) ?_
            obtain ⟨t9, ht9, nt9⟩ := nw_get hk10
            have lt9 := jv_ltGet ht9
            have k10t9 : k8 < 10 := by have := hE.2.2.2.1; omega
            have Ot9 := (hE.2.2.2.2.1 k8 t9 ht9).2
            have Vt9 := (hE.2.2.2.2.1 k8 t9 ht9).1
            have Yt9 := hE.2.1 k8 k10t9
            have bt9n := Ot9.1; have bt9k := Ot9.2.1
            refine jv_astore (q := 30) (lo' := [(4, .ref (T (10 * e + k8))), (0, .ref (z 0 e)), (1, .ref (T (10 * e + k0))), (2, .int (jv_bI w)), (3, .int (jv_oN ko))]) G dX2_found_28 (by decide) rfl rfl ?_
            refine jv_aload (q := 32) G 0 dX2_found_30 rfl rfl ?_
            refine jv_ifnull (q := 35) (tgt := 38) (x := (some (T (10 * e + k8)))) G dX2_found_32 (by decide) rfl (fun c20 => ?_) (fun a21 c20 => ?_)
            · cases c20
            · refine jv_aload (q := 37) G 0 dX2_found_35 rfl rfl ?_
              refine jv_aretQ G hr dX2_found_37 (Nat.le_of_ble_eq_true rfl) (Nat.le_of_ble_eq_true rfl) ?_
              refine ⟨?_, rfl⟩; unfold c_fd; rw [if_neg (by simp [hko]), if_pos (by simp [c7])]; rw [hk10]; rfl
        · refine jv_aload_n (q := 16) G 0 dX2_found_15 rfl rfl rfl ?_
          refine jv_aload_n (q := 17) G 1 dX2_found_16 rfl rfl rfl ?_
          refine jv_iload_n (q := 18) G 3 dX2_found_17 rfl rfl rfl ?_
          refine jv_callV_R (q := 21) (h1 := h) (As := [.ref (T (10 * e + k0)), .int (jv_oN ko)]) (rest := []) (ce' := 0) (sl' := 0) (r := ((c_hf ts Us k0 ko).map (fun k => T (10 * e + k)))) G Z ml_X2_89 (k_holderOfField hlt hE hU ht0 hK) hE.1.1 dX2_found_18 rfl (by decide) (by decide) (by decide) (by decide) (Nat.le_of_ble_eq_true rfl) rfl rfl rfl rfl ?_
          refine jv_aret G hr dX2_found_21 (Nat.le_of_ble_eq_true rfl) (Nat.le_of_ble_eq_true rfl) ?_
          refine ⟨?_, rfl⟩; unfold c_fd; rw [if_neg (by simp [hko]), if_neg (by simp [c7])]
      · rw [hko] at c6; exact absurd c6 (jv_nI_m1 (by have := hK K hko; omega))
set_option maxHeartbeats 4000000 in
set_option maxRecDepth 100000 in
theorem k_found0 {lA : Launch} (hlt : lA.stackTraces = false) {D : jv_D} {base : Nat} {z : Nat → Nat → Nat} {T : Nat → Nat} {N : Nat → Nat → Nat} {h : jv_H} {e : Nat} {ts : List mT} (hE : cv_E z T N h e ts) {w : Bool} {ko : Option Nat} : jv_Met lA D base yX2_found (.code yX2_found cX2_found 7 (some (.object "LinkArchive$Type"))) 3 0 0 [.ref (z 0 e), va_rf none, .int (jv_bI w), .int (jv_oN ko)] h (jv_rR none h) jv_no := by
  refine jv_ofV (lo := [(0, .ref (z 0 e)), (1, va_rf none), (2, .int (jv_bI w)), (3, .int (jv_oN ko))]) hlt (by decide) (Nat.le_of_ble_eq_true rfl) rfl (fun E hEl hEd hEz Z G hr ht hnm => ?_)
  subst hEl; subst hEd; subst hEz
  refine jv_aload_nR (q := 1) G 1 dX2_found_0 rfl rfl rfl ?_
  refine jv_ifnull (q := 4) (tgt := 9) (x := none) G dX2_found_1 (by decide) rfl (fun c1 => ?_) (fun a2 c1 => ?_)
  · refine jv_null (q := 10) G dX2_found_9 rfl ?_
    refine jv_aretN G hr dX2_found_10 (Nat.le_of_ble_eq_true rfl) (Nat.le_of_ble_eq_true rfl) ?_
    exact ⟨rfl, rfl⟩
  · cases c1
