def m_om (t : mT) (w : Bool) (ko : Option Nat) : Option mM := (m_oc t w ko).bind (fun j => (mt_m t)[j]?)
def c_sw (ts : List mT) (t0 : mT) (m : mM) (ko : Option Nat) : Nat → Option Nat → Option Nat
  | 0, _ => none
  | _ + 1, none => none
  | n + 1, some k => match ts[k]? with
    | none => none
    | some t => if (m_om t true ko).any m_hd && m_sf t t0 m then some k else c_sw ts t0 m ko n (m_at ts (jv_oN (mt_u t)))
def c_sl (ts : List mT) (Us : Nat → List Nat) (k0 : Nat) (ko : Option Nat) (r0 : Nat) : Option Nat := match ts[k0]? with
  | none => none
  | some t0 => match m_om t0 true ko with
    | none => none
    | some m => if mm_a m = 0 then some k0 else match c_sw ts t0 m ko 10 (some r0) with
      | some j => some j
      | none => m_only (c_op ts (c_cd ts Us r0 ko) ko) ts.length
theorem om_n {t : mT} {w : Bool} {ko : Option Nat} (h : m_oc t w ko = none) : m_om t w ko = none := by unfold m_om; rw [h]; rfl
theorem om_s {t : mT} {w : Bool} {ko : Option Nat} {j : Nat} {m : mM} (h : m_oc t w ko = some j) (hm : (mt_m t)[j]? = some m) : m_om t w ko = some m := by unfold m_om; rw [h]; exact hm
set_option maxHeartbeats 4000000 in
set_option maxRecDepth 100000 in
theorem k_sel_loop {E : jv_E} {z : Nat → Nat → Nat} {T : Nat → Nat} {N : Nat → Nat → Nat} {h : jv_H} {e : Nat} {ts : List mT} (hE : cv_E z T N h e ts) {Us : Nat → List Nat} (hU : cv_Us z T h e ts Us) {k0 : Nat} {t0 : mT} (ht0 : ts[k0]? = some t0) {ko : Option Nat} (hK : ∀ K, ko = some K → K < 64) {r0 : Nat} {tr : mT} (htr : ts[r0]? = some tr) {j0 : Nat} {m : mM} (hj0 : m_oc t0 true ko = some j0) (hm : (mt_m t0)[j0]? = some m) (ha0 : ¬ mm_a m = 0) (hlt : (jv_l E).stackTraces = false) (G : jv_C E cX2_selected RX2 8) (Z : jv_rm E = jv_room 4 0 0) (hr : (jv_mt E).sig.returnType = (some (.object "LinkArchive$Type"))) (hk : c_sw ts t0 m ko 10 (some r0) = none → jv_V E 8 h 0 0 (jv_Q E (jv_rR ((c_sl ts Us k0 ko r0).map (fun k => T (10 * e + k))) h) jv_no 0 0) 108 [(0, .ref (z 0 e)), (2, .int (jv_oN ko)), (3, .ref (T (10 * e + r0)))] []) : ∀ (n i : Nat) (o : Option Nat), i + n = 10 → (∀ k, o = some k → k < ts.length) → c_sw ts t0 m ko n o = c_sw ts t0 m ko 10 (some r0) → jv_V E 8 h 0 0 (jv_Q E (jv_rR ((c_sl ts Us k0 ko r0).map (fun k => T (10 * e + k))) h) jv_no 0 0) 43 [(6, .int (nI i)), (5, va_rf (o.map (fun k => T (10 * e + k)))), (0, .ref (z 0 e)), (1, .ref (T (10 * e + k0))), (2, .int (jv_oN ko)), (3, .ref (T (10 * e + r0))), (4, .ref (N (T (10 * e + k0)) j0))] [] := by
  have hres : ∀ j, c_sw ts t0 m ko 10 (some r0) = some j → c_sl ts Us k0 ko r0 = some j := by
    intro j hj
    unfold c_sl
    rw [ht0]; dsimp only
    rw [om_s hj0 hm]; dsimp only
    rw [if_neg ha0, hj]
  intro n
  induction n with
  | zero =>
    intro i o hn hl hc
    cases o with
    | none =>
      show jv_V E 8 h 0 0 (jv_Q E (jv_rR ((c_sl ts Us k0 ko r0).map (fun k => T (10 * e + k))) h) jv_no 0 0) 43 [(6, .int (nI i)), (5, va_rf none), (0, .ref (z 0 e)), (1, .ref (T (10 * e + k0))), (2, .int (jv_oN ko)), (3, .ref (T (10 * e + r0))), (4, .ref (N (T (10 * e + k0)) j0))] []
      have lt0 := jv_ltGet ht0
      have k10t0 : k0 < 10 := by have := hE.2.2.2.1; omega
      have Ot0 := (hE.2.2.2.2.1 k0 t0 ht0).2
      have Vt0 := (hE.2.2.2.2.1 k0 t0 ht0).1
      have Yt0 := hE.2.1 k0 k10t0
      have bt0n := Ot0.1; have bt0k := Ot0.2.1
      have ltr := jv_ltGet htr
      have k10tr : r0 < 10 := by have := hE.2.2.2.1; omega
      have Otr := (hE.2.2.2.2.1 r0 tr htr).2
      have Vtr := (hE.2.2.2.2.1 r0 tr htr).1
      have Ytr := hE.2.1 r0 k10tr
      have btrn := Otr.1; have btrk := Otr.2.1
      have lm := jv_ltGet hm
      have Om := Ot0.2.2.2.2.2.2 m (List.mem_of_getElem? hm)
      have Vm := ct_m Vt0 hm
      have j6m : j0 < 6 := by have := Ot0.2.2.2.2.2.1; omega
      refine jv_iload (q := 45) G 0 dX2_selected_43 rfl rfl ?_
      refine jv_bipush (q := 47) (v := nI 10) G dX2_selected_45 (by decide) rfl ?_
      refine jv_icmp_geN (q := 50) (tgt := 108) G dX2_selected_47 (by decide) rfl (by omega) (by omega) (fun c1 => ?_) (fun c1 => ?_)
      · refine jv_lo [2, 4, 5] (lo' := [(0, .ref (z 0 e)), (2, .int (jv_oN ko)), (3, .ref (T (10 * e + r0)))]) rfl ?_
        exact hk (by rw [← hc]; rfl)
      · omega
    | some k =>
      show jv_V E 8 h 0 0 (jv_Q E (jv_rR ((c_sl ts Us k0 ko r0).map (fun k => T (10 * e + k))) h) jv_no 0 0) 43 [(6, .int (nI i)), (5, .ref (T (10 * e + k))), (0, .ref (z 0 e)), (1, .ref (T (10 * e + k0))), (2, .int (jv_oN ko)), (3, .ref (T (10 * e + r0))), (4, .ref (N (T (10 * e + k0)) j0))] []
      have lt0 := jv_ltGet ht0
      have k10t0 : k0 < 10 := by have := hE.2.2.2.1; omega
      have Ot0 := (hE.2.2.2.2.1 k0 t0 ht0).2
      have Vt0 := (hE.2.2.2.2.1 k0 t0 ht0).1
      have Yt0 := hE.2.1 k0 k10t0
      have bt0n := Ot0.1; have bt0k := Ot0.2.1
      have ltr := jv_ltGet htr
      have k10tr : r0 < 10 := by have := hE.2.2.2.1; omega
      have Otr := (hE.2.2.2.2.1 r0 tr htr).2
      have Vtr := (hE.2.2.2.2.1 r0 tr htr).1
      have Ytr := hE.2.1 r0 k10tr
      have btrn := Otr.1; have btrk := Otr.2.1
      have lm := jv_ltGet hm
      have Om := Ot0.2.2.2.2.2.2 m (List.mem_of_getElem? hm)
      have Vm := ct_m Vt0 hm
      have j6m : j0 < 6 := by have := Ot0.2.2.2.2.2.1; omega
      obtain ⟨t, ht⟩ := jv_getLt (l := ts) (k := k) (hl k rfl)
      have lt := jv_ltGet ht
      have k10t : k < 10 := by have := hE.2.2.2.1; omega
      have Ot := (hE.2.2.2.2.1 k t ht).2
      have Vt := (hE.2.2.2.2.1 k t ht).1
      have Yt := hE.2.1 k k10t
      have btn := Ot.1; have btk := Ot.2.1
      refine jv_iload (q := 45) G 0 dX2_selected_43 rfl rfl ?_
      refine jv_bipush (q := 47) (v := nI 10) G dX2_selected_45 (by decide) rfl ?_
      refine jv_icmp_geN (q := 50) (tgt := 108) G dX2_selected_47 (by decide) rfl (by omega) (by omega) (fun c1 => ?_) (fun c1 => ?_)
      · refine jv_lo [2, 4, 5] (lo' := [(0, .ref (z 0 e)), (2, .int (jv_oN ko)), (3, .ref (T (10 * e + r0)))]) rfl ?_
        exact hk (by rw [← hc]; rfl)
      · omega
  | succ n ih =>
    intro i o hn hl hc
    cases o with
    | none =>
      show jv_V E 8 h 0 0 (jv_Q E (jv_rR ((c_sl ts Us k0 ko r0).map (fun k => T (10 * e + k))) h) jv_no 0 0) 43 [(6, .int (nI i)), (5, va_rf none), (0, .ref (z 0 e)), (1, .ref (T (10 * e + k0))), (2, .int (jv_oN ko)), (3, .ref (T (10 * e + r0))), (4, .ref (N (T (10 * e + k0)) j0))] []
      have lt0 := jv_ltGet ht0
      have k10t0 : k0 < 10 := by have := hE.2.2.2.1; omega
      have Ot0 := (hE.2.2.2.2.1 k0 t0 ht0).2
      have Vt0 := (hE.2.2.2.2.1 k0 t0 ht0).1
      have Yt0 := hE.2.1 k0 k10t0
      have bt0n := Ot0.1; have bt0k := Ot0.2.1
      have ltr := jv_ltGet htr
      have k10tr : r0 < 10 := by have := hE.2.2.2.1; omega
      have Otr := (hE.2.2.2.2.1 r0 tr htr).2
      have Vtr := (hE.2.2.2.2.1 r0 tr htr).1
      have Ytr := hE.2.1 r0 k10tr
      have btrn := Otr.1; have btrk := Otr.2.1
      have lm := jv_ltGet hm
      have Om := Ot0.2.2.2.2.2.2 m (List.mem_of_getElem? hm)
      have Vm := ct_m Vt0 hm
      have j6m : j0 < 6 := by have := Ot0.2.2.2.2.2.1; omega
      refine jv_iload (q := 45) G 0 dX2_selected_43 rfl rfl ?_
      refine jv_bipush (q := 47) (v := nI 10) G dX2_selected_45 (by decide) rfl ?_
      refine jv_icmp_geN (q := 50) (tgt := 108) G dX2_selected_47 (by decide) rfl (by omega) (by omega) (fun c1 => ?_) (fun c1 => ?_)
      · omega
      · refine jv_aloadR (q := 52) G 1 dX2_selected_50 rfl rfl ?_
        refine jv_ifnull (q := 55) (tgt := 108) (x := none) G dX2_selected_52 (by decide) rfl (fun c2 => ?_) (fun a3 c2 => ?_)
        · refine jv_lo [2, 4, 5] (lo' := [(0, .ref (z 0 e)), (2, .int (jv_oN ko)), (3, .ref (T (10 * e + r0)))]) rfl ?_
          exact hk (by rw [← hc]; rfl)
        · cases c2
    | some k =>
      show jv_V E 8 h 0 0 (jv_Q E (jv_rR ((c_sl ts Us k0 ko r0).map (fun k => T (10 * e + k))) h) jv_no 0 0) 43 [(6, .int (nI i)), (5, .ref (T (10 * e + k))), (0, .ref (z 0 e)), (1, .ref (T (10 * e + k0))), (2, .int (jv_oN ko)), (3, .ref (T (10 * e + r0))), (4, .ref (N (T (10 * e + k0)) j0))] []
      have lt0 := jv_ltGet ht0
      have k10t0 : k0 < 10 := by have := hE.2.2.2.1; omega
      have Ot0 := (hE.2.2.2.2.1 k0 t0 ht0).2
      have Vt0 := (hE.2.2.2.2.1 k0 t0 ht0).1
      have Yt0 := hE.2.1 k0 k10t0
      have bt0n := Ot0.1; have bt0k := Ot0.2.1
      have ltr := jv_ltGet htr
      have k10tr : r0 < 10 := by have := hE.2.2.2.1; omega
      have Otr := (hE.2.2.2.2.1 r0 tr htr).2
      have Vtr := (hE.2.2.2.2.1 r0 tr htr).1
      have Ytr := hE.2.1 r0 k10tr
      have btrn := Otr.1; have btrk := Otr.2.1
      have lm := jv_ltGet hm
      have Om := Ot0.2.2.2.2.2.2 m (List.mem_of_getElem? hm)
      have Vm := ct_m Vt0 hm
      have j6m : j0 < 6 := by have := Ot0.2.2.2.2.2.1; omega
      obtain ⟨t, ht⟩ := jv_getLt (l := ts) (k := k) (hl k rfl)
      have lt := jv_ltGet ht
      have k10t : k < 10 := by have := hE.2.2.2.1; omega
      have Ot := (hE.2.2.2.2.1 k t ht).2
      have Vt := (hE.2.2.2.2.1 k t ht).1
      have Yt := hE.2.1 k k10t
      have btn := Ot.1; have btk := Ot.2.1
      rw [c_sw, ht] at hc; dsimp only at hc
      refine jv_iload (q := 45) G 0 dX2_selected_43 rfl rfl ?_
      refine jv_bipush (q := 47) (v := nI 10) G dX2_selected_45 (by decide) rfl ?_
      refine jv_icmp_geN (q := 50) (tgt := 108) G dX2_selected_47 (by decide) rfl (by omega) (by omega) (fun c1 => ?_) (fun c1 => ?_)
      · omega
      · refine jv_aload (q := 52) G 1 dX2_selected_50 rfl rfl ?_
        refine jv_ifnull (q := 55) (tgt := 108) (x := (some (T (10 * e + k)))) G dX2_selected_52 (by decide) rfl (fun c2 => ?_) (fun a3 c2 => ?_)
        · cases c2
        · refine jv_aload (q := 57) G 1 dX2_selected_55 rfl rfl ?_
          refine jv_iconst (q := 58) (v := nI 1) G dX2_selected_57 (by decide) rfl ?_
          refine jv_iload_n (q := 59) G 4 dX2_selected_58 rfl rfl rfl ?_
          refine jv_callV_R (q := 62) (h1 := h) (As := [.int (nI 1), .int (jv_oN ko)]) (rest := []) (ce' := 0) (sl' := 0) (r := ((m_oc t true ko).map (N (T (10 * e + k))))) G Z ml_X2_117 (k_own (w := true) (ko := ko) hlt Yt Vt Ot hK) (hE.2.1 k k10t).1 dX2_selected_59 rfl (by decide) (by decide) (by decide) (by decide) (Nat.le_of_ble_eq_true rfl) rfl rfl rfl rfl ?_
          rcases Option.eq_none_or_eq_some (m_oc t true ko) with hj6 | ⟨j4, hj6⟩
          · refine jv_topR (y := none) (by rw [hj6]; rfl) ?_
            refine jv_astoreR (q := 64) (lo' := [(7, va_rf none), (6, .int (nI i)), (5, .ref (T (10 * e + k))), (0, .ref (z 0 e)), (1, .ref (T (10 * e + k0))), (2, .int (jv_oN ko)), (3, .ref (T (10 * e + r0))), (4, .ref (N (T (10 * e + k0)) j0))]) (x := none) G dX2_selected_62 (by decide) rfl rfl ?_
            refine jv_aloadR (q := 66) G 0 dX2_selected_64 rfl rfl ?_
            refine jv_ifnull (q := 69) (tgt := 91) (x := none) G dX2_selected_66 (by decide) rfl (fun c7 => ?_) (fun a8 c7 => ?_)
            · refine jv_aload_n (q := 92) G 3 dX2_selected_91 rfl rfl rfl ?_
              refine jv_aload (q := 94) G 2 dX2_selected_92 rfl rfl ?_
              refine jv_getI (q := 97) G dX2_selected_94 fl_X2_54 rfl (hE.2.1 k k10t).1 (ct_5 (hE.2.2.2.2.1 k t ht).1) rfl ?_
              refine jv_callV_R (q := 100) (h1 := h) (As := [.int (jv_oN (mt_u t))]) (rest := []) (ce' := 0) (sl' := 0) (r := ((m_at ts (jv_oN (mt_u t))).map (fun k => T (10 * e + k)))) G Z ml_X2_25 (k_named hlt hE) hE.1.1 dX2_selected_97 rfl (by decide) (by decide) (by decide) (by decide) (Nat.le_of_ble_eq_true rfl) rfl rfl rfl rfl ?_
              rcases Option.eq_none_or_eq_some (m_at ts (jv_oN (mt_u t))) with hk11 | ⟨k9, hk11⟩
              · refine jv_topR (y := none) (by rw [hk11]; rfl) ?_
                refine jv_astoreR (q := 102) (lo' := [(5, va_rf none), (7, va_rf none), (6, .int (nI i)), (0, .ref (z 0 e)), (1, .ref (T (10 * e + k0))), (2, .int (jv_oN ko)), (3, .ref (T (10 * e + r0))), (4, .ref (N (T (10 * e + k0)) j0))]) (x := none) G dX2_selected_100 (by decide) rfl rfl ?_
                refine jv_iinc (q := 105) (lo' := [(6, .int (nI (i + 1))), (5, va_rf none), (7, va_rf none), (0, .ref (z 0 e)), (1, .ref (T (10 * e + k0))), (2, .int (jv_oN ko)), (3, .ref (T (10 * e + r0))), (4, .ref (N (T (10 * e + k0)) j0))]) (v := nI (i + 1)) G 2 dX2_selected_102 rfl (nI_1 i) (by decide) rfl rfl ?_
                refine jv_goto (q := 43) G dX2_selected_105 (by decide) ?_
                refine jv_lo [0, 1, 3, 4, 5, 6, 7] (lo' := [(6, .int (nI (i + 1))), (5, va_rf none), (0, .ref (z 0 e)), (1, .ref (T (10 * e + k0))), (2, .int (jv_oN ko)), (3, .ref (T (10 * e + r0))), (4, .ref (N (T (10 * e + k0)) j0))]) rfl ?_
                rw [if_neg (by simp [om_n hj6]), hk11] at hc
                exact ih (i + 1) (none) (by omega) (fun k e => by cases e) hc
              · refine jv_topR (y := (some (T (10 * e + k9)))) (by rw [hk11]; rfl) ?_
                obtain ⟨t10, ht10, nt10⟩ := m_at_get hk11
                have lt10 := jv_ltGet ht10
                have k10t10 : k9 < 10 := by have := hE.2.2.2.1; omega
                have Ot10 := (hE.2.2.2.2.1 k9 t10 ht10).2
                have Vt10 := (hE.2.2.2.2.1 k9 t10 ht10).1
                have Yt10 := hE.2.1 k9 k10t10
                have bt10n := Ot10.1; have bt10k := Ot10.2.1
                refine jv_astore (q := 102) (lo' := [(5, .ref (T (10 * e + k9))), (7, va_rf none), (6, .int (nI i)), (0, .ref (z 0 e)), (1, .ref (T (10 * e + k0))), (2, .int (jv_oN ko)), (3, .ref (T (10 * e + r0))), (4, .ref (N (T (10 * e + k0)) j0))]) G dX2_selected_100 (by decide) rfl rfl ?_
                refine jv_iinc (q := 105) (lo' := [(6, .int (nI (i + 1))), (5, .ref (T (10 * e + k9))), (7, va_rf none), (0, .ref (z 0 e)), (1, .ref (T (10 * e + k0))), (2, .int (jv_oN ko)), (3, .ref (T (10 * e + r0))), (4, .ref (N (T (10 * e + k0)) j0))]) (v := nI (i + 1)) G 2 dX2_selected_102 rfl (nI_1 i) (by decide) rfl rfl ?_
                refine jv_goto (q := 43) G dX2_selected_105 (by decide) ?_
                refine jv_lo [0, 1, 3, 4, 5, 6, 7] (lo' := [(6, .int (nI (i + 1))), (5, .ref (T (10 * e + k9))), (0, .ref (z 0 e)), (1, .ref (T (10 * e + k0))), (2, .int (jv_oN ko)), (3, .ref (T (10 * e + r0))), (4, .ref (N (T (10 * e + k0)) j0))]) rfl ?_
                rw [if_neg (by simp [om_n hj6]), hk11] at hc
                exact ih (i + 1) (some k9) (by omega) (fun k e => by cases e; exact lt10) hc
            · cases c7
          · refine jv_topR (y := (some (N (T (10 * e + k)) j4))) (by rw [hj6]; rfl) ?_
            obtain ⟨m5, hm5, wm5, km5⟩ := oc_some hj6
            have lm5 := jv_ltGet hm5
            have Om5 := Ot.2.2.2.2.2.2 m5 (List.mem_of_getElem? hm5)
            have Vm5 := ct_m Vt hm5
            have j6m5 : j4 < 6 := by have := Ot.2.2.2.2.2.1; omega
            have bm5a := Om5.2.2.1
            refine jv_astore (q := 64) (lo' := [(7, .ref (N (T (10 * e + k)) j4)), (6, .int (nI i)), (5, .ref (T (10 * e + k))), (0, .ref (z 0 e)), (1, .ref (T (10 * e + k0))), (2, .int (jv_oN ko)), (3, .ref (T (10 * e + r0))), (4, .ref (N (T (10 * e + k0)) j0))]) G dX2_selected_62 (by decide) rfl rfl ?_
            refine jv_aload (q := 66) G 0 dX2_selected_64 rfl rfl ?_
            refine jv_ifnull (q := 69) (tgt := 91) (x := (some (N (T (10 * e + k)) j4))) G dX2_selected_66 (by decide) rfl (fun c12 => ?_) (fun a13 c12 => ?_)
            · cases c12
            · refine jv_aload (q := 71) G 0 dX2_selected_69 rfl rfl ?_
              refine jv_callV_I (q := 74) (h1 := h) (As := []) (rest := []) (ce' := 0) (sl' := 0) (r := jv_bI (m_hd m5)) G Z ml_X2_121 (k_isHanded hlt (Yt.2.2.2.2.2.2.2 j4 j6m5).2 Vm5 Om5) (Yt.2.2.2.2.2.2.2 j4 j6m5).2 dX2_selected_71 rfl (by decide) (by decide) (by decide) (by decide) (Nat.le_of_ble_eq_true rfl) rfl rfl rfl rfl ?_
              refine jv_if_eqB (q := 77) (tgt := 91) G dX2_selected_74 (by decide) rfl (fun c14 => ?_) (fun c14 => ?_)
              · refine jv_aload_n (q := 92) G 3 dX2_selected_91 rfl rfl rfl ?_
                refine jv_aload (q := 94) G 2 dX2_selected_92 rfl rfl ?_
                refine jv_getI (q := 97) G dX2_selected_94 fl_X2_54 rfl (hE.2.1 k k10t).1 (ct_5 (hE.2.2.2.2.1 k t ht).1) rfl ?_
                refine jv_callV_R (q := 100) (h1 := h) (As := [.int (jv_oN (mt_u t))]) (rest := []) (ce' := 0) (sl' := 0) (r := ((m_at ts (jv_oN (mt_u t))).map (fun k => T (10 * e + k)))) G Z ml_X2_25 (k_named hlt hE) hE.1.1 dX2_selected_97 rfl (by decide) (by decide) (by decide) (by decide) (Nat.le_of_ble_eq_true rfl) rfl rfl rfl rfl ?_
                rcases Option.eq_none_or_eq_some (m_at ts (jv_oN (mt_u t))) with hk17 | ⟨k15, hk17⟩
                · refine jv_topR (y := none) (by rw [hk17]; rfl) ?_
                  refine jv_astoreR (q := 102) (lo' := [(5, va_rf none), (7, .ref (N (T (10 * e + k)) j4)), (6, .int (nI i)), (0, .ref (z 0 e)), (1, .ref (T (10 * e + k0))), (2, .int (jv_oN ko)), (3, .ref (T (10 * e + r0))), (4, .ref (N (T (10 * e + k0)) j0))]) (x := none) G dX2_selected_100 (by decide) rfl rfl ?_
                  refine jv_iinc (q := 105) (lo' := [(6, .int (nI (i + 1))), (5, va_rf none), (7, .ref (N (T (10 * e + k)) j4)), (0, .ref (z 0 e)), (1, .ref (T (10 * e + k0))), (2, .int (jv_oN ko)), (3, .ref (T (10 * e + r0))), (4, .ref (N (T (10 * e + k0)) j0))]) (v := nI (i + 1)) G 2 dX2_selected_102 rfl (nI_1 i) (by decide) rfl rfl ?_
                  refine jv_goto (q := 43) G dX2_selected_105 (by decide) ?_
                  refine jv_lo [0, 1, 3, 4, 5, 6, 7] (lo' := [(6, .int (nI (i + 1))), (5, va_rf none), (0, .ref (z 0 e)), (1, .ref (T (10 * e + k0))), (2, .int (jv_oN ko)), (3, .ref (T (10 * e + r0))), (4, .ref (N (T (10 * e + k0)) j0))]) rfl ?_
                  rw [if_neg (by simp [om_s hj6 hm5, c14]), hk17] at hc
                  exact ih (i + 1) (none) (by omega) (fun k e => by cases e) hc
                · refine jv_topR (y := (some (T (10 * e + k15)))) (by rw [hk17]; rfl) ?_
                  obtain ⟨t16, ht16, nt16⟩ := m_at_get hk17
                  have lt16 := jv_ltGet ht16
                  have k10t16 : k15 < 10 := by have := hE.2.2.2.1; omega
                  have Ot16 := (hE.2.2.2.2.1 k15 t16 ht16).2
                  have Vt16 := (hE.2.2.2.2.1 k15 t16 ht16).1
                  have Yt16 := hE.2.1 k15 k10t16
                  have bt16n := Ot16.1; have bt16k := Ot16.2.1
                  refine jv_astore (q := 102) (lo' := [(5, .ref (T (10 * e + k15))), (7, .ref (N (T (10 * e + k)) j4)), (6, .int (nI i)), (0, .ref (z 0 e)), (1, .ref (T (10 * e + k0))), (2, .int (jv_oN ko)), (3, .ref (T (10 * e + r0))), (4, .ref (N (T (10 * e + k0)) j0))]) G dX2_selected_100 (by decide) rfl rfl ?_
                  refine jv_iinc (q := 105) (lo' := [(6, .int (nI (i + 1))), (5, .ref (T (10 * e + k15))), (7, .ref (N (T (10 * e + k)) j4)), (0, .ref (z 0 e)), (1, .ref (T (10 * e + k0))), (2, .int (jv_oN ko)), (3, .ref (T (10 * e + r0))), (4, .ref (N (T (10 * e + k0)) j0))]) (v := nI (i + 1)) G 2 dX2_selected_102 rfl (nI_1 i) (by decide) rfl rfl ?_
                  refine jv_goto (q := 43) G dX2_selected_105 (by decide) ?_
                  refine jv_lo [0, 1, 3, 4, 5, 6, 7] (lo' := [(6, .int (nI (i + 1))), (5, .ref (T (10 * e + k15))), (0, .ref (z 0 e)), (1, .ref (T (10 * e + k0))), (2, .int (jv_oN ko)), (3, .ref (T (10 * e + r0))), (4, .ref (N (T (10 * e + k0)) j0))]) rfl ?_
                  rw [if_neg (by simp [om_s hj6 hm5, c14]), hk17] at hc
                  exact ih (i + 1) (some k15) (by omega) (fun k e => by cases e; exact lt16) hc
              · refine jv_aload (q := 79) G 2 dX2_selected_77 rfl rfl ?_
                refine jv_aload_n (q := 80) G 4 dX2_selected_79 rfl rfl rfl ?_
                refine jv_aload (q := 82) G 7 dX2_selected_80 rfl rfl ?_
                refine jv_callS_I (q := 85) (h1 := h) (As := [.ref (T (10 * e + k)), .ref (T (10 * e + k0)), .ref (N (T (10 * e + k0)) j0)]) (rest := []) (ce' := 0) (sl' := 0) (r := jv_bI (m_sf t t0 m)) G Z ml_X2_140 (k_standsFor hlt Yt Vt Ot Yt0 Vt0 Ot0 (Yt0.2.2.2.2.2.2.2 j0 j6m).2 Vm Om) dX2_selected_82 rfl (by decide) (by decide) (by decide) (by decide) (Nat.le_of_ble_eq_true rfl) rfl rfl rfl rfl ?_
                refine jv_if_eqB (q := 88) (tgt := 91) G dX2_selected_85 (by decide) rfl (fun c18 => ?_) (fun c18 => ?_)
                · refine jv_aload_n (q := 92) G 3 dX2_selected_91 rfl rfl rfl ?_
                  refine jv_aload (q := 94) G 2 dX2_selected_92 rfl rfl ?_
                  refine jv_getI (q := 97) G dX2_selected_94 fl_X2_54 rfl (hE.2.1 k k10t).1 (ct_5 (hE.2.2.2.2.1 k t ht).1) rfl ?_
                  refine jv_callV_R (q := 100) (h1 := h) (As := [.int (jv_oN (mt_u t))]) (rest := []) (ce' := 0) (sl' := 0) (r := ((m_at ts (jv_oN (mt_u t))).map (fun k => T (10 * e + k)))) G Z ml_X2_25 (k_named hlt hE) hE.1.1 dX2_selected_97 rfl (by decide) (by decide) (by decide) (by decide) (Nat.le_of_ble_eq_true rfl) rfl rfl rfl rfl ?_
                  rcases Option.eq_none_or_eq_some (m_at ts (jv_oN (mt_u t))) with hk21 | ⟨k19, hk21⟩
                  · refine jv_topR (y := none) (by rw [hk21]; rfl) ?_
                    refine jv_astoreR (q := 102) (lo' := [(5, va_rf none), (7, .ref (N (T (10 * e + k)) j4)), (6, .int (nI i)), (0, .ref (z 0 e)), (1, .ref (T (10 * e + k0))), (2, .int (jv_oN ko)), (3, .ref (T (10 * e + r0))), (4, .ref (N (T (10 * e + k0)) j0))]) (x := none) G dX2_selected_100 (by decide) rfl rfl ?_
                    refine jv_iinc (q := 105) (lo' := [(6, .int (nI (i + 1))), (5, va_rf none), (7, .ref (N (T (10 * e + k)) j4)), (0, .ref (z 0 e)), (1, .ref (T (10 * e + k0))), (2, .int (jv_oN ko)), (3, .ref (T (10 * e + r0))), (4, .ref (N (T (10 * e + k0)) j0))]) (v := nI (i + 1)) G 2 dX2_selected_102 rfl (nI_1 i) (by decide) rfl rfl ?_
                    refine jv_goto (q := 43) G dX2_selected_105 (by decide) ?_
                    refine jv_lo [0, 1, 3, 4, 5, 6, 7] (lo' := [(6, .int (nI (i + 1))), (5, va_rf none), (0, .ref (z 0 e)), (1, .ref (T (10 * e + k0))), (2, .int (jv_oN ko)), (3, .ref (T (10 * e + r0))), (4, .ref (N (T (10 * e + k0)) j0))]) rfl ?_
                    rw [if_neg (by simp [om_s hj6 hm5, c14, c18]), hk21] at hc
                    exact ih (i + 1) (none) (by omega) (fun k e => by cases e) hc
                  · refine jv_topR (y := (some (T (10 * e + k19)))) (by rw [hk21]; rfl) ?_
                    obtain ⟨t20, ht20, nt20⟩ := m_at_get hk21
                    have lt20 := jv_ltGet ht20
                    have k10t20 : k19 < 10 := by have := hE.2.2.2.1; omega
                    have Ot20 := (hE.2.2.2.2.1 k19 t20 ht20).2
                    have Vt20 := (hE.2.2.2.2.1 k19 t20 ht20).1
                    have Yt20 := hE.2.1 k19 k10t20
                    have bt20n := Ot20.1; have bt20k := Ot20.2.1
                    refine jv_astore (q := 102) (lo' := [(5, .ref (T (10 * e + k19))), (7, .ref (N (T (10 * e + k)) j4)), (6, .int (nI i)), (0, .ref (z 0 e)), (1, .ref (T (10 * e + k0))), (2, .int (jv_oN ko)), (3, .ref (T (10 * e + r0))), (4, .ref (N (T (10 * e + k0)) j0))]) G dX2_selected_100 (by decide) rfl rfl ?_
                    refine jv_iinc (q := 105) (lo' := [(6, .int (nI (i + 1))), (5, .ref (T (10 * e + k19))), (7, .ref (N (T (10 * e + k)) j4)), (0, .ref (z 0 e)), (1, .ref (T (10 * e + k0))), (2, .int (jv_oN ko)), (3, .ref (T (10 * e + r0))), (4, .ref (N (T (10 * e + k0)) j0))]) (v := nI (i + 1)) G 2 dX2_selected_102 rfl (nI_1 i) (by decide) rfl rfl ?_
                    refine jv_goto (q := 43) G dX2_selected_105 (by decide) ?_
                    refine jv_lo [0, 1, 3, 4, 5, 6, 7] (lo' := [(6, .int (nI (i + 1))), (5, .ref (T (10 * e + k19))), (0, .ref (z 0 e)), (1, .ref (T (10 * e + k0))), (2, .int (jv_oN ko)), (3, .ref (T (10 * e + r0))), (4, .ref (N (T (10 * e + k0)) j0))]) rfl ?_
                    rw [if_neg (by simp [om_s hj6 hm5, c14, c18]), hk21] at hc
                    exact ih (i + 1) (some k19) (by omega) (fun k e => by cases e; exact lt20) hc
                · refine jv_aload (q := 90) G 2 dX2_selected_88 rfl rfl ?_
                  refine jv_aretQ G hr dX2_selected_90 (Nat.le_of_ble_eq_true rfl) (Nat.le_of_ble_eq_true rfl) ?_
                  rw [if_pos (by simp [om_s hj6 hm5, c14, c18])] at hc
                  refine ⟨?_, rfl⟩; rw [hres k hc.symm]; rfl
set_option maxHeartbeats 4000000 in
set_option maxRecDepth 100000 in
theorem k_selected2 {lA : Launch} (hlt : lA.stackTraces = false) {D : jv_D} {base : Nat} {z : Nat → Nat → Nat} {T : Nat → Nat} {N : Nat → Nat → Nat} {h : jv_H} {e : Nat} {ts : List mT} (hE : cv_E z T N h e ts) {Us : Nat → List Nat} (hU : cv_Us z T h e ts Us) {k0 : Nat} {t0 : mT} (ht0 : ts[k0]? = some t0) {ko : Option Nat} (hK : ∀ K, ko = some K → K < 64) {r0 : Nat} {tr : mT} (htr : ts[r0]? = some tr) : jv_Met lA D base yX2_selected (.code yX2_selected cX2_selected 8 (some (.object "LinkArchive$Type"))) 4 0 0 [.ref (z 0 e), .ref (T (10 * e + k0)), .int (jv_oN ko), .ref (T (10 * e + r0))] h (jv_rR ((c_sl ts Us k0 ko r0).map (fun k => T (10 * e + k))) h) jv_no := by
  refine jv_ofV (lo := [(0, .ref (z 0 e)), (1, .ref (T (10 * e + k0))), (2, .int (jv_oN ko)), (3, .ref (T (10 * e + r0)))]) hlt (by decide) (Nat.le_of_ble_eq_true rfl) rfl (fun E hEl hEd hEz Z G hr ht hnm => ?_)
  subst hEl; subst hEd; subst hEz
  have lt0 := jv_ltGet ht0
  have k10t0 : k0 < 10 := by have := hE.2.2.2.1; omega
  have Ot0 := (hE.2.2.2.2.1 k0 t0 ht0).2
  have Vt0 := (hE.2.2.2.2.1 k0 t0 ht0).1
  have Yt0 := hE.2.1 k0 k10t0
  have bt0n := Ot0.1; have bt0k := Ot0.2.1
  have ltr := jv_ltGet htr
  have k10tr : r0 < 10 := by have := hE.2.2.2.1; omega
  have Otr := (hE.2.2.2.2.1 r0 tr htr).2
  have Vtr := (hE.2.2.2.2.1 r0 tr htr).1
  have Ytr := hE.2.1 r0 k10tr
  have btrn := Otr.1; have btrk := Otr.2.1
  refine jv_aload_n (q := 1) G 1 dX2_selected_0 rfl rfl rfl ?_
  refine jv_ifnonnull (q := 4) (tgt := 8) (x := (some (T (10 * e + k0)))) G dX2_selected_1 (by decide) rfl (fun a2 c1 => ?_) (fun c1 => ?_)
  · refine jv_aload_n (q := 9) G 1 dX2_selected_8 rfl rfl rfl ?_
    refine jv_iconst (q := 10) (v := nI 1) G dX2_selected_9 (by decide) rfl ?_
    refine jv_iload_n (q := 11) G 2 dX2_selected_10 rfl rfl rfl ?_
    refine jv_callV_R (q := 14) (h1 := h) (As := [.int (nI 1), .int (jv_oN ko)]) (rest := []) (ce' := 0) (sl' := 0) (r := ((m_oc t0 true ko).map (N (T (10 * e + k0))))) G Z ml_X2_117 (k_own (w := true) (ko := ko) hlt Yt0 Vt0 Ot0 hK) (hE.2.1 k0 k10t0).1 dX2_selected_11 rfl (by decide) (by decide) (by decide) (by decide) (Nat.le_of_ble_eq_true rfl) rfl rfl rfl rfl ?_
    rcases Option.eq_none_or_eq_some (m_oc t0 true ko) with hj5 | ⟨j3, hj5⟩
    · refine jv_topR (y := none) (by rw [hj5]; rfl) ?_
      refine jv_astoreR (q := 16) (lo' := [(4, va_rf none), (0, .ref (z 0 e)), (1, .ref (T (10 * e + k0))), (2, .int (jv_oN ko)), (3, .ref (T (10 * e + r0)))]) (x := none) G dX2_selected_14 (by decide) rfl rfl ?_
      refine jv_aloadR (q := 18) G 0 dX2_selected_16 rfl rfl ?_
      refine jv_ifnull (q := 21) (tgt := 25) (x := none) G dX2_selected_18 (by decide) rfl (fun c6 => ?_) (fun a7 c6 => ?_)
      · refine jv_null (q := 26) G dX2_selected_25 rfl ?_
        refine jv_aretN G hr dX2_selected_26 (Nat.le_of_ble_eq_true rfl) (Nat.le_of_ble_eq_true rfl) ?_
        refine ⟨?_, rfl⟩; unfold c_sl; rw [ht0]; dsimp only; rw [om_n hj5]; rfl
      · cases c6
    · refine jv_topR (y := (some (N (T (10 * e + k0)) j3))) (by rw [hj5]; rfl) ?_
      obtain ⟨m4, hm4, wm4, km4⟩ := oc_some hj5
      have lm4 := jv_ltGet hm4
      have Om4 := Ot0.2.2.2.2.2.2 m4 (List.mem_of_getElem? hm4)
      have Vm4 := ct_m Vt0 hm4
      have j6m4 : j3 < 6 := by have := Ot0.2.2.2.2.2.1; omega
      have bm4a := Om4.2.2.1
      refine jv_astore (q := 16) (lo' := [(4, .ref (N (T (10 * e + k0)) j3)), (0, .ref (z 0 e)), (1, .ref (T (10 * e + k0))), (2, .int (jv_oN ko)), (3, .ref (T (10 * e + r0)))]) G dX2_selected_14 (by decide) rfl rfl ?_
      refine jv_aload (q := 18) G 0 dX2_selected_16 rfl rfl ?_
      refine jv_ifnull (q := 21) (tgt := 25) (x := (some (N (T (10 * e + k0)) j3))) G dX2_selected_18 (by decide) rfl (fun c8 => ?_) (fun a9 c8 => ?_)
      · cases c8
      · refine jv_aload_n (q := 22) G 4 dX2_selected_21 rfl rfl rfl ?_
        refine jv_ifnonnull (q := 25) (tgt := 27) (x := (some (T (10 * e + r0)))) G dX2_selected_22 (by decide) rfl (fun a11 c10 => ?_) (fun c10 => ?_)
        · refine jv_aload (q := 29) G 0 dX2_selected_27 rfl rfl ?_
          refine jv_getI (q := 32) G dX2_selected_29 fl_X2_137 rfl (Yt0.2.2.2.2.2.2.2 j3 j6m4).2 Vm4.2.2.2.2.1 rfl ?_
          refine jv_if_neN (q := 35) (tgt := 37) G dX2_selected_32 (by decide) rfl (by omega) (fun c12 => ?_) (fun c12 => ?_)
          · refine jv_aload_n (q := 38) G 4 dX2_selected_37 rfl rfl rfl ?_
            refine jv_astore (q := 40) (lo' := [(5, .ref (T (10 * e + r0))), (4, .ref (N (T (10 * e + k0)) j3)), (0, .ref (z 0 e)), (1, .ref (T (10 * e + k0))), (2, .int (jv_oN ko)), (3, .ref (T (10 * e + r0)))]) G dX2_selected_38 (by decide) rfl rfl ?_
            refine jv_iconst (q := 41) (v := nI 0) G dX2_selected_40 (by decide) rfl ?_
            refine jv_istore (q := 43) (lo' := [(6, .int (nI 0)), (5, .ref (T (10 * e + r0))), (4, .ref (N (T (10 * e + k0)) j3)), (0, .ref (z 0 e)), (1, .ref (T (10 * e + k0))), (2, .int (jv_oN ko)), (3, .ref (T (10 * e + r0)))]) G dX2_selected_41 (by decide) rfl rfl ?_
            refine jv_lo [0, 1, 3, 4, 5, 6, 2] (lo' := [(6, .int (nI 0)), (5, .ref (T (10 * e + r0))), (0, .ref (z 0 e)), (1, .ref (T (10 * e + k0))), (2, .int (jv_oN ko)), (3, .ref (T (10 * e + r0))), (4, .ref (N (T (10 * e + k0)) j3))]) rfl ?_
            refine k_sel_loop hE hU ht0 hK htr hj5 hm4 c12 hlt G Z hr (fun hcs => ?_) 10 0 (some r0) (by omega) (fun k e => by cases e; exact ltr) rfl
            refine jv_aload_n (q := 109) G 0 dX2_selected_108 rfl rfl rfl ?_
            refine jv_aload_n (q := 110) G 0 dX2_selected_109 rfl rfl rfl ?_
            refine jv_aload_n (q := 111) G 2 dX2_selected_110 rfl rfl rfl ?_
            refine jv_iload_n (q := 112) G 1 dX2_selected_111 rfl rfl rfl ?_
            refine jv_callV_I (q := 115) (h1 := h) (As := [.ref (T (10 * e + r0)), .int (jv_oN ko)]) (rest := [.ref (z 0 e)]) (ce' := 0) (sl' := 0) (r := nI (c_cd ts Us r0 ko)) G Z ml_X2_96 (k_candidatesOf hlt hE hU htr hK) hE.1.1 dX2_selected_112 rfl (by decide) (by decide) (by decide) (by decide) (Nat.le_of_ble_eq_true rfl) rfl rfl rfl rfl ?_
            have hcd := cd_lt hE hU (ko := ko) (k := r0)
            refine jv_iload_n (q := 116) G 1 dX2_selected_115 rfl rfl rfl ?_
            refine jv_callV_R (q := 119) (h1 := h) (As := [.int (nI (c_cd ts Us r0 ko)), .int (jv_oN ko)]) (rest := []) (ce' := 0) (sl' := 0) (r := ((m_only (c_op ts (c_cd ts Us r0 ko) ko) ts.length).map (fun k => T (10 * e + k)))) G Z ml_X2_100 (k_onlyConcrete hlt hE hcd hK) hE.1.1 dX2_selected_116 rfl (by decide) (by decide) (by decide) (by decide) (Nat.le_of_ble_eq_true rfl) rfl rfl rfl rfl ?_
            refine jv_aret G hr dX2_selected_119 (Nat.le_of_ble_eq_true rfl) (Nat.le_of_ble_eq_true rfl) ?_
            refine ⟨?_, rfl⟩; unfold c_sl; rw [ht0]; dsimp only; rw [om_s hj5 hm4]; dsimp only; rw [if_neg c12, hcs]
          · refine jv_aload_n (q := 36) G 2 dX2_selected_35 rfl rfl rfl ?_
            refine jv_aretQ G hr dX2_selected_36 (Nat.le_of_ble_eq_true rfl) (Nat.le_of_ble_eq_true rfl) ?_
            refine ⟨?_, rfl⟩; unfold c_sl; rw [ht0]; dsimp only; rw [om_s hj5 hm4]; dsimp only; rw [if_pos c12]; rfl
        · cases c10
  · cases c1
set_option maxHeartbeats 4000000 in
set_option maxRecDepth 100000 in
theorem k_selected1 {lA : Launch} (hlt : lA.stackTraces = false) {D : jv_D} {base : Nat} {z : Nat → Nat → Nat} {T : Nat → Nat} {N : Nat → Nat → Nat} {h : jv_H} {e : Nat} {ts : List mT} (hE : cv_E z T N h e ts) {Us : Nat → List Nat} (hU : cv_Us z T h e ts Us) {k0 : Nat} {t0 : mT} (ht0 : ts[k0]? = some t0) {ko : Option Nat} (hK : ∀ K, ko = some K → K < 64) : jv_Met lA D base yX2_selected (.code yX2_selected cX2_selected 8 (some (.object "LinkArchive$Type"))) 4 0 0 [.ref (z 0 e), .ref (T (10 * e + k0)), .int (jv_oN ko), va_rf none] h (jv_rR none h) jv_no := by
  refine jv_ofV (lo := [(0, .ref (z 0 e)), (1, .ref (T (10 * e + k0))), (2, .int (jv_oN ko)), (3, va_rf none)]) hlt (by decide) (Nat.le_of_ble_eq_true rfl) rfl (fun E hEl hEd hEz Z G hr ht hnm => ?_)
  subst hEl; subst hEd; subst hEz
  have lt0 := jv_ltGet ht0
  have k10t0 : k0 < 10 := by have := hE.2.2.2.1; omega
  have Ot0 := (hE.2.2.2.2.1 k0 t0 ht0).2
  have Vt0 := (hE.2.2.2.2.1 k0 t0 ht0).1
  have Yt0 := hE.2.1 k0 k10t0
  have bt0n := Ot0.1; have bt0k := Ot0.2.1
  refine jv_aload_n (q := 1) G 1 dX2_selected_0 rfl rfl rfl ?_
  refine jv_ifnonnull (q := 4) (tgt := 8) (x := (some (T (10 * e + k0)))) G dX2_selected_1 (by decide) rfl (fun a2 c1 => ?_) (fun c1 => ?_)
  · refine jv_aload_n (q := 9) G 1 dX2_selected_8 rfl rfl rfl ?_
    refine jv_iconst (q := 10) (v := nI 1) G dX2_selected_9 (by decide) rfl ?_
    refine jv_iload_n (q := 11) G 2 dX2_selected_10 rfl rfl rfl ?_
    refine jv_callV_R (q := 14) (h1 := h) (As := [.int (nI 1), .int (jv_oN ko)]) (rest := []) (ce' := 0) (sl' := 0) (r := ((m_oc t0 true ko).map (N (T (10 * e + k0))))) G Z ml_X2_117 (k_own (w := true) (ko := ko) hlt Yt0 Vt0 Ot0 hK) (hE.2.1 k0 k10t0).1 dX2_selected_11 rfl (by decide) (by decide) (by decide) (by decide) (Nat.le_of_ble_eq_true rfl) rfl rfl rfl rfl ?_
    rcases Option.eq_none_or_eq_some (m_oc t0 true ko) with hj5 | ⟨j3, hj5⟩
    · refine jv_topR (y := none) (by rw [hj5]; rfl) ?_
      refine jv_astoreR (q := 16) (lo' := [(4, va_rf none), (0, .ref (z 0 e)), (1, .ref (T (10 * e + k0))), (2, .int (jv_oN ko)), (3, va_rf none)]) (x := none) G dX2_selected_14 (by decide) rfl rfl ?_
      refine jv_aloadR (q := 18) G 0 dX2_selected_16 rfl rfl ?_
      refine jv_ifnull (q := 21) (tgt := 25) (x := none) G dX2_selected_18 (by decide) rfl (fun c6 => ?_) (fun a7 c6 => ?_)
      · refine jv_null (q := 26) G dX2_selected_25 rfl ?_
        refine jv_aretN G hr dX2_selected_26 (Nat.le_of_ble_eq_true rfl) (Nat.le_of_ble_eq_true rfl) ?_
        exact ⟨rfl, rfl⟩
      · cases c6
    · refine jv_topR (y := (some (N (T (10 * e + k0)) j3))) (by rw [hj5]; rfl) ?_
      obtain ⟨m4, hm4, wm4, km4⟩ := oc_some hj5
      have lm4 := jv_ltGet hm4
      have Om4 := Ot0.2.2.2.2.2.2 m4 (List.mem_of_getElem? hm4)
      have Vm4 := ct_m Vt0 hm4
      have j6m4 : j3 < 6 := by have := Ot0.2.2.2.2.2.1; omega
      have bm4a := Om4.2.2.1
      refine jv_astore (q := 16) (lo' := [(4, .ref (N (T (10 * e + k0)) j3)), (0, .ref (z 0 e)), (1, .ref (T (10 * e + k0))), (2, .int (jv_oN ko)), (3, va_rf none)]) G dX2_selected_14 (by decide) rfl rfl ?_
      refine jv_aload (q := 18) G 0 dX2_selected_16 rfl rfl ?_
      refine jv_ifnull (q := 21) (tgt := 25) (x := (some (N (T (10 * e + k0)) j3))) G dX2_selected_18 (by decide) rfl (fun c8 => ?_) (fun a9 c8 => ?_)
      · cases c8
      · refine jv_aload_nR (q := 22) G 4 dX2_selected_21 rfl rfl rfl ?_
        refine jv_ifnonnull (q := 25) (tgt := 27) (x := none) G dX2_selected_22 (by decide) rfl (fun a11 c10 => ?_) (fun c10 => ?_)
        · cases c10
        · refine jv_null (q := 26) G dX2_selected_25 rfl ?_
          refine jv_aretN G hr dX2_selected_26 (Nat.le_of_ble_eq_true rfl) (Nat.le_of_ble_eq_true rfl) ?_
          exact ⟨rfl, rfl⟩
  · cases c1
set_option maxHeartbeats 4000000 in
set_option maxRecDepth 100000 in
theorem k_selected0a {lA : Launch} (hlt : lA.stackTraces = false) {D : jv_D} {base : Nat} {z : Nat → Nat → Nat} {T : Nat → Nat} {N : Nat → Nat → Nat} {h : jv_H} {e : Nat} {ts : List mT} (hE : cv_E z T N h e ts) {ko : Option Nat} {c : Nat} : jv_Met lA D base yX2_selected (.code yX2_selected cX2_selected 8 (some (.object "LinkArchive$Type"))) 4 0 0 [.ref (z 0 e), va_rf none, .int (jv_oN ko), .ref c] h (jv_rR none h) jv_no := by
  refine jv_ofV (lo := [(0, .ref (z 0 e)), (1, va_rf none), (2, .int (jv_oN ko)), (3, .ref c)]) hlt (by decide) (Nat.le_of_ble_eq_true rfl) rfl (fun E hEl hEd hEz Z G hr ht hnm => ?_)
  subst hEl; subst hEd; subst hEz
  refine jv_aload_nR (q := 1) G 1 dX2_selected_0 rfl rfl rfl ?_
  refine jv_ifnonnull (q := 4) (tgt := 8) (x := none) G dX2_selected_1 (by decide) rfl (fun a2 c1 => ?_) (fun c1 => ?_)
  · cases c1
  · refine jv_null (q := 5) G dX2_selected_4 rfl ?_
    refine jv_goto (q := 14) G dX2_selected_5 (by decide) ?_
    refine jv_astoreR (q := 16) (lo' := [(4, va_rf none), (0, .ref (z 0 e)), (1, va_rf none), (2, .int (jv_oN ko)), (3, .ref c)]) (x := none) G dX2_selected_14 (by decide) rfl rfl ?_
    refine jv_aloadR (q := 18) G 0 dX2_selected_16 rfl rfl ?_
    refine jv_ifnull (q := 21) (tgt := 25) (x := none) G dX2_selected_18 (by decide) rfl (fun c3 => ?_) (fun a4 c3 => ?_)
    · refine jv_null (q := 26) G dX2_selected_25 rfl ?_
      refine jv_aretN G hr dX2_selected_26 (Nat.le_of_ble_eq_true rfl) (Nat.le_of_ble_eq_true rfl) ?_
      exact ⟨rfl, rfl⟩
    · cases c3
set_option maxHeartbeats 4000000 in
set_option maxRecDepth 100000 in
theorem k_selected0b {lA : Launch} (hlt : lA.stackTraces = false) {D : jv_D} {base : Nat} {z : Nat → Nat → Nat} {T : Nat → Nat} {N : Nat → Nat → Nat} {h : jv_H} {e : Nat} {ts : List mT} (hE : cv_E z T N h e ts) {ko : Option Nat} : jv_Met lA D base yX2_selected (.code yX2_selected cX2_selected 8 (some (.object "LinkArchive$Type"))) 4 0 0 [.ref (z 0 e), va_rf none, .int (jv_oN ko), va_rf none] h (jv_rR none h) jv_no := by
  refine jv_ofV (lo := [(0, .ref (z 0 e)), (1, va_rf none), (2, .int (jv_oN ko)), (3, va_rf none)]) hlt (by decide) (Nat.le_of_ble_eq_true rfl) rfl (fun E hEl hEd hEz Z G hr ht hnm => ?_)
  subst hEl; subst hEd; subst hEz
  refine jv_aload_nR (q := 1) G 1 dX2_selected_0 rfl rfl rfl ?_
  refine jv_ifnonnull (q := 4) (tgt := 8) (x := none) G dX2_selected_1 (by decide) rfl (fun a2 c1 => ?_) (fun c1 => ?_)
  · cases c1
  · refine jv_null (q := 5) G dX2_selected_4 rfl ?_
    refine jv_goto (q := 14) G dX2_selected_5 (by decide) ?_
    refine jv_astoreR (q := 16) (lo' := [(4, va_rf none), (0, .ref (z 0 e)), (1, va_rf none), (2, .int (jv_oN ko)), (3, va_rf none)]) (x := none) G dX2_selected_14 (by decide) rfl rfl ?_
    refine jv_aloadR (q := 18) G 0 dX2_selected_16 rfl rfl ?_
    refine jv_ifnull (q := 21) (tgt := 25) (x := none) G dX2_selected_18 (by decide) rfl (fun c3 => ?_) (fun a4 c3 => ?_)
    · refine jv_null (q := 26) G dX2_selected_25 rfl ?_
      refine jv_aretN G hr dX2_selected_26 (Nat.le_of_ble_eq_true rfl) (Nat.le_of_ble_eq_true rfl) ?_
      exact ⟨rfl, rfl⟩
    · cases c3
