theorem sl_no {o p r : Option (Nat × Nat)} (h : o = none) : (o.or p).or r = p.or r := by rw [h, Option.none_or]
/-- whether the method mo at (k, j) of the type t is what is selected for md at (kd, jd) of td -/
def m_slt (td : mT) (md : mM) (kd jd : Nat) (t : mT) (mo : mM) (k j : Nat) : Bool := !mm_t mo && (!decide (mm_a mo = 0) && (decide (k = kd ∧ j = jd) || (decide (1 < mm_a md) || decide (mt_k t = mt_k td))))
def m_scn (ts : List mT) (td : mT) (md : mM) (kd jd : Nat) : Nat → Nat → Option (Nat × Nat)
  | 0, _ => none
  | d + 1, k => match ts[k]? with
    | none => none
    | some t => (match m_own t (nI 1) (nI (mm_n md)) (nI (mm_s md)) with
      | none => none
      | some j => match (mt_m t)[j]? with
        | none => none
        | some mo => if m_slt td md kd jd t mo k j then some (k, j) else none).or ((mt_u t).bind (fun u => (m_at ts (nI u)).bind (fun k' => m_scn ts td md kd jd d k')))
def m_sr (ts : List mT) (tn : Nat) (n s : Int32) : Option (Nat × Nat) := if fb_ct (m_cd ts tn n s) ts.length = 0 then none else (m_only (m_ob ts n s (m_cd ts tn n s)) ts.length).map (fun k => (k, m_ix ts n s k))
def m_sl (ts : List mT) (d : Nat) (td : mT) (md : mM) (kd jd kr : Nat) : Option (Nat × Nat) := match ts[kr]? with
  | none => none
  | some tr => if mm_a md = 0 then some (kd, jd) else (m_scn ts td md kd jd d kr).or (m_sr ts (mt_n tr) (nI (mm_n md)) (nI (mm_s md)))
theorem ob_ff {ts : List mT} {n s : Int32} {e : Nat} {o : Option Nat} : obE ts n s e o = ffE e (o.map (fun k => (k, m_ix ts n s k))) := by cases o <;> rfl
set_option maxHeartbeats 4000000 in
set_option maxRecDepth 100000 in
theorem r_sl2 {E : jv_E} {x : Nat} {q : Nat → Nat} {h0 h : jv_H} {e kd jd kr : Nat} {ts : List mT} {td tr : mT} {md : mM} (hlt : (jv_l E).stackTraces = false) (G : jv_C E cX8_selected RX8 7) (Z : jv_rm E = jv_room 4 0 0) (hr : (jv_mt E).sig.returnType = some .int) (hsc : sc x q h0 h) (hS : rf_S x q h0) (he : e < 8) (hE : rf_E q h0 e ts) (hV : rf_V q h0 e ts) (hkd : ts[kd]? = some td) (hjd : (mt_m td)[jd]? = some md) (hkr : ts[kr]? = some tr) {SL : Option (Nat × Nat)} (hF : SL = m_sr ts (mt_n tr) (nI (mm_n md)) (nI (mm_s md))) : jv_V E 7 h 0 0 (jv_Q E (fun v h' => v = some (.int (ffE e SL)) ∧ sc x q h0 h') jv_no 0 0) 141 [(5, .int (-1)), (0, .ref x), (1, .int (nI e)), (2, .int (nI (6 * (10 * e + kd) + jd))), (3, .int (nI (10 * e + kr)))] [] := by
  have hlen := hE.2.1
  have hkdl := jv_ltGet hkd
  have hkrl := jv_ltGet hkr
  have Ttd := (hE.2.2 kd td hkd).1
  have Otd := (hE.2.2 kd td hkd).2
  have Ttr := (hE.2.2 kr tr hkr).1
  have Otr := (hE.2.2 kr tr hkr).2
  have Mmd := rt_m Ttd hjd
  have Omd := Otd.2.2.2.2.2.2 md (List.mem_of_getElem? hjd)
  have hjdl := jv_ltGet hjd
  have hjd6 := Otd.2.2.2.2.2.1
  have Bmdn := Omd.1
  have Bmds := Omd.2.1
  have Bmda := Omd.2.2.1
  have Btdk := Otd.2.1
  refine jv_aload_n (q := 142) G 1 dX8_selected_141 rfl rfl rfl ?_
  refine jv_iload_n (q := 143) G 2 dX8_selected_142 rfl rfl rfl ?_
  refine jv_iload_n (q := 144) G 4 dX8_selected_143 rfl rfl rfl ?_
  refine jv_aload_n (q := 145) G 1 dX8_selected_144 rfl rfl rfl ?_
  refine jv_getQ (q := 148) G dX8_selected_145 fl_X8_47 rfl (hsc.S hS).1 (rf_p14 (hsc.S hS)) rfl ?_
  refine jv_iload_n (q := 149) G 3 dX8_selected_148 rfl rfl rfl ?_
  refine jv_iald (q := 150) G dX8_selected_149 (rf_a14 (hsc.S hS)) rfl (by omega) (by decide) (hsc.M hS Mmd).2.1 rfl ?_
  refine jv_aload_n (q := 151) G 1 dX8_selected_150 rfl rfl rfl ?_
  refine jv_getQ (q := 154) G dX8_selected_151 fl_X8_50 rfl (hsc.S hS).1 (rf_p15 (hsc.S hS)) rfl ?_
  refine jv_iload_n (q := 155) G 3 dX8_selected_154 rfl rfl rfl ?_
  refine jv_iald (q := 156) G dX8_selected_155 (rf_a15 (hsc.S hS)) rfl (by omega) (by decide) (hsc.M hS Mmd).2.2.1 rfl ?_
  refine jv_callV (q := 159) (As := [.int (nI e), .int (nI (10 * e + kr)), .int (nI (mm_n md)), .int (nI (mm_s md))]) (rest := []) G Z ml_X8_176 (r_candidates hlt hsc hS he hE hV hkr) (hsc.S hS).1 dX8_selected_156 rfl (by decide) (by decide) (by decide) (by decide) (Nat.le_of_ble_eq_true rfl) rfl rfl (fun v2 h1 y3 => ?_) (fun _ _ hx => hx.elim)
  obtain ⟨rfl, hsc, hcd⟩ := y3
  show jv_V E 7 h1 0 0 (jv_Q E (fun v h' => v = some (.int (ffE e SL)) ∧ sc x q h0 h') jv_no 0 0) 159 [(5, .int (-1)), (0, .ref x), (1, .int (nI e)), (2, .int (nI (6 * (10 * e + kd) + jd))), (3, .int (nI (10 * e + kr)))] [.int (nI (fb_ct (m_cd ts (mt_n tr) (nI (mm_n md)) (nI (mm_s md))) ts.length))]
  have hcn := fb_ct_le (m_cd ts (mt_n tr) (nI (mm_n md)) (nI (mm_s md))) ts.length
  refine jv_if_neN (q := 162) (tgt := 166) G dX8_selected_159 (by decide) rfl (by omega) (fun c4 => ?_) (fun c4 => ?_)
  · refine jv_aload_n (q := 167) G 1 dX8_selected_166 rfl rfl rfl ?_
    refine jv_iload_n (q := 168) G 2 dX8_selected_167 rfl rfl rfl ?_
    refine jv_aload_n (q := 169) G 1 dX8_selected_168 rfl rfl rfl ?_
    refine jv_getQ (q := 172) G dX8_selected_169 fl_X8_47 rfl (hsc.S hS).1 (rf_p14 (hsc.S hS)) rfl ?_
    refine jv_iload_n (q := 173) G 3 dX8_selected_172 rfl rfl rfl ?_
    refine jv_iald (q := 174) G dX8_selected_173 (rf_a14 (hsc.S hS)) rfl (by omega) (by decide) (hsc.M hS Mmd).2.1 rfl ?_
    refine jv_aload_n (q := 175) G 1 dX8_selected_174 rfl rfl rfl ?_
    refine jv_getQ (q := 178) G dX8_selected_175 fl_X8_50 rfl (hsc.S hS).1 (rf_p15 (hsc.S hS)) rfl ?_
    refine jv_iload_n (q := 179) G 3 dX8_selected_178 rfl rfl rfl ?_
    refine jv_iald (q := 180) G dX8_selected_179 (rf_a15 (hsc.S hS)) rfl (by omega) (by decide) (hsc.M hS Mmd).2.2.1 rfl ?_
    refine jv_callV_I (q := 183) (h1 := h1) (As := [.int (nI e), .int (nI (mm_n md)), .int (nI (mm_s md))]) (rest := []) (ce' := 0) (sl' := 0) (r := (obE ts (nI (mm_n md)) (nI (mm_s md)) e (m_only (m_ob ts (nI (mm_n md)) (nI (mm_s md)) (m_cd ts (mt_n tr) (nI (mm_n md)) (nI (mm_s md)))) ts.length))) G Z ml_X8_179 (r_onlyBody hlt hsc hS he hE hcd) (hsc.S hS).1 dX8_selected_180 rfl (by decide) (by decide) (by decide) (by decide) (Nat.le_of_ble_eq_true rfl) rfl rfl rfl rfl ?_
    refine jv_iret G hr dX8_selected_183 (Nat.le_of_ble_eq_true rfl) (Nat.le_of_ble_eq_true rfl) ?_
    exact ⟨by rw [hF, m_sr, if_neg (by assumption), ob_ff], hsc⟩
  · refine jv_iconst (q := 163) (v := (-1)) G dX8_selected_162 (by decide) rfl ?_
    refine jv_goto (q := 183) G dX8_selected_163 (by decide) ?_
    refine jv_iret G hr dX8_selected_183 (Nat.le_of_ble_eq_true rfl) (Nat.le_of_ble_eq_true rfl) ?_
    exact ⟨by rw [hF, m_sr, if_pos (by assumption)]; rfl, hsc⟩
set_option maxHeartbeats 4000000 in
set_option maxRecDepth 100000 in
theorem r_sl1 {E : jv_E} {x : Nat} {q : Nat → Nat} {h0 h : jv_H} {e kd jd kr : Nat} {ts : List mT} {td tr : mT} {md : mM} (hlt : (jv_l E).stackTraces = false) (G : jv_C E cX8_selected RX8 7) (Z : jv_rm E = jv_room 4 0 0) (hr : (jv_mt E).sig.returnType = some .int) (hsc : sc x q h0 h) (hS : rf_S x q h0) (he : e < 8) (hE : rf_E q h0 e ts) (hV : rf_V q h0 e ts) (hkd : ts[kd]? = some td) (hjd : (mt_m td)[jd]? = some md) (hkr : ts[kr]? = some tr) {SL : Option (Nat × Nat)} : ∀ (d kc : Nat) (tc : mT), ts[kc]? = some tc → m_hg ts d kc → SL = (m_scn ts td md kd jd d kc).or (m_sr ts (mt_n tr) (nI (mm_n md)) (nI (mm_s md))) → jv_V E 7 h 0 0 (jv_Q E (fun v h' => v = some (.int (ffE e SL)) ∧ sc x q h0 h') jv_no 0 0) 20 [(5, .int (nI (10 * e + kc))), (4, .int (nI (10 * e + kd))), (0, .ref x), (1, .int (nI e)), (2, .int (nI (6 * (10 * e + kd) + jd))), (3, .int (nI (10 * e + kr)))] [] := by
  have hlen := hE.2.1
  have hkdl := jv_ltGet hkd
  have hkrl := jv_ltGet hkr
  have Ttd := (hE.2.2 kd td hkd).1
  have Otd := (hE.2.2 kd td hkd).2
  have Ttr := (hE.2.2 kr tr hkr).1
  have Otr := (hE.2.2 kr tr hkr).2
  have Mmd := rt_m Ttd hjd
  have Omd := Otd.2.2.2.2.2.2 md (List.mem_of_getElem? hjd)
  have hjdl := jv_ltGet hjd
  have hjd6 := Otd.2.2.2.2.2.1
  have Bmdn := Omd.1
  have Bmds := Omd.2.1
  have Bmda := Omd.2.2.1
  have Btdk := Otd.2.1
  intro d
  induction d with
  | zero => intro kc tc _ hh; exact hh.elim
  | succ d ih =>
    intro kc tc htc hh hF
    have hkcl := jv_ltGet htc
    have Ttc := (hE.2.2 kc tc htc).1
    have Otc := (hE.2.2 kc tc htc).2
    have Btck := Otc.2.1
    obtain ⟨-, hsup⟩ := hh tc htc
    rw [m_scn, htc] at hF
    dsimp only at hF
    rcases Option.eq_none_or_eq_some (mt_u tc) with hu | ⟨u, hu⟩
    · rw [hu] at hF
      dsimp only [Option.bind_none] at hF
      refine jv_iload (q := 22) G 0 dX8_selected_20 rfl rfl ?_
      refine jv_iconst (q := 23) (v := (-1)) G dX8_selected_22 (by decide) rfl ?_
      refine jv_icmp_eq (q := 26) (tgt := 141) G dX8_selected_23 (by decide) rfl (fun c1 => ?_) (fun c1 => ?_)
      · exact absurd c1 (jv_nI_m1 (by omega))
      · refine jv_aload_n (q := 27) G 2 dX8_selected_26 rfl rfl rfl ?_
        refine jv_iload (q := 29) G 0 dX8_selected_27 rfl rfl ?_
        refine jv_iconst (q := 30) (v := nI 1) G dX8_selected_29 (by decide) rfl ?_
        refine jv_aload_n (q := 31) G 2 dX8_selected_30 rfl rfl rfl ?_
        refine jv_getQ (q := 34) G dX8_selected_31 fl_X8_47 rfl (hsc.S hS).1 (rf_p14 (hsc.S hS)) rfl ?_
        refine jv_iload_n (q := 35) G 4 dX8_selected_34 rfl rfl rfl ?_
        refine jv_iald (q := 36) G dX8_selected_35 (rf_a14 (hsc.S hS)) rfl (by omega) (by decide) (hsc.M hS Mmd).2.1 rfl ?_
        refine jv_aload_n (q := 37) G 2 dX8_selected_36 rfl rfl rfl ?_
        refine jv_getQ (q := 40) G dX8_selected_37 fl_X8_50 rfl (hsc.S hS).1 (rf_p15 (hsc.S hS)) rfl ?_
        refine jv_iload_n (q := 41) G 4 dX8_selected_40 rfl rfl rfl ?_
        refine jv_iald (q := 42) G dX8_selected_41 (rf_a15 (hsc.S hS)) rfl (by omega) (by decide) (hsc.M hS Mmd).2.2.1 rfl ?_
        refine jv_callV_I (q := 45) (h1 := h) (As := [.int (nI (10 * e + kc)), .int (nI 1), .int (nI (mm_n md)), .int (nI (mm_s md))]) (rest := []) (ce' := 0) (sl' := 0) (r := jv_oN ((m_own tc (nI 1) (nI (mm_n md)) (nI (mm_s md))).map (fun j => 6 * (10 * e + kc) + j))) G Z ml_X8_155 (r_own hlt (hsc.S hS) (by omega) (hsc.T hS Ttc) Otc) (hsc.S hS).1 dX8_selected_42 rfl (by decide) (by decide) (by decide) (by decide) (Nat.le_of_ble_eq_true rfl) rfl rfl rfl rfl ?_
        rcases Option.eq_none_or_eq_some (m_own tc (nI 1) (nI (mm_n md)) (nI (mm_s md))) with hj4 | ⟨j2, hj4⟩
        · refine jv_topI (y := (-1)) (by rw [hj4]; rfl) ?_
          refine jv_istore (q := 47) (lo' := [(6, .int (-1)), (5, .int (nI (10 * e + kc))), (4, .int (nI (10 * e + kd))), (0, .ref x), (1, .int (nI e)), (2, .int (nI (6 * (10 * e + kd) + jd))), (3, .int (nI (10 * e + kr)))]) G dX8_selected_45 (by decide) rfl rfl ?_
          refine jv_iload (q := 49) G 0 dX8_selected_47 rfl rfl ?_
          refine jv_iconst (q := 50) (v := (-1)) G dX8_selected_49 (by decide) rfl ?_
          refine jv_icmp_eq (q := 53) (tgt := 109) G dX8_selected_50 (by decide) rfl (fun c5 => ?_) (fun c5 => ?_)
          · refine jv_aload_n (q := 110) G 3 dX8_selected_109 rfl rfl rfl ?_
            refine jv_getQ (q := 113) G dX8_selected_110 fl_X8_32 rfl (hsc.S hS).1 (rf_p9 (hsc.S hS)) rfl ?_
            refine jv_iload (q := 115) G 1 dX8_selected_113 rfl rfl ?_
            refine jv_iald (q := 116) G dX8_selected_115 (rf_a9 (hsc.S hS)) rfl (by omega) (by decide) ((rt_9 (hsc.T hS Ttc)).trans (congrArg jv_oN hu)) rfl ?_
            refine jv_iconst (q := 117) (v := (-1)) G dX8_selected_116 (by decide) rfl ?_
            refine jv_icmp_ne (q := 120) (tgt := 124) G dX8_selected_117 (by decide) rfl (fun c6 => ?_) (fun c6 => ?_)
            · exact absurd rfl c6
            · refine jv_iconst (q := 121) (v := (-1)) G dX8_selected_120 (by decide) rfl ?_
              refine jv_goto (q := 136) G dX8_selected_121 (by decide) ?_
              refine jv_istore (q := 138) (lo' := [(5, .int (-1)), (6, .int (-1)), (4, .int (nI (10 * e + kd))), (0, .ref x), (1, .int (nI e)), (2, .int (nI (6 * (10 * e + kd) + jd))), (3, .int (nI (10 * e + kr)))]) G dX8_selected_136 (by decide) rfl rfl ?_
              refine jv_goto (q := 20) G dX8_selected_138 (by decide) ?_
              rw [sl_no (by simp only [*] <;> first | rfl | (rw [if_neg]; simp [m_slt, *]; try omega))] at hF
              dsimp only [Option.none_or] at hF
              refine jv_iload (q := 22) G 0 dX8_selected_20 rfl rfl ?_
              refine jv_iconst (q := 23) (v := (-1)) G dX8_selected_22 (by decide) rfl ?_
              refine jv_icmp_eq (q := 26) (tgt := 141) G dX8_selected_23 (by decide) rfl (fun c7 => ?_) (fun c7 => ?_)
              · refine jv_lo [0, 3, 4, 5, 6] (lo' := [(5, .int (-1)), (0, .ref x), (1, .int (nI e)), (2, .int (nI (6 * (10 * e + kd) + jd))), (3, .int (nI (10 * e + kr)))]) rfl ?_
                exact r_sl2 hlt G Z hr hsc hS he hE hV hkd hjd hkr hF
              · exact absurd rfl c7
          · exact absurd rfl c5
        · refine jv_topI (y := nI (6 * (10 * e + kc) + j2)) (by rw [hj4]; rfl) ?_
          obtain ⟨m3, hm3, wm3, nm3, sm3, lm3⟩ := m_own_some hj4
          have Mm3 := rt_m Ttc hm3
          have Om3 := Otc.2.2.2.2.2.2 m3 (List.mem_of_getElem? hm3)
          have Lm3 := Otc.2.2.2.2.2.1
          have Bm3n := Om3.1; have Bm3s := Om3.2.1; have Bm3a := Om3.2.2.1
          refine jv_istore (q := 47) (lo' := [(6, .int (nI (6 * (10 * e + kc) + j2))), (5, .int (nI (10 * e + kc))), (4, .int (nI (10 * e + kd))), (0, .ref x), (1, .int (nI e)), (2, .int (nI (6 * (10 * e + kd) + jd))), (3, .int (nI (10 * e + kr)))]) G dX8_selected_45 (by decide) rfl rfl ?_
          refine jv_iload (q := 49) G 0 dX8_selected_47 rfl rfl ?_
          refine jv_iconst (q := 50) (v := (-1)) G dX8_selected_49 (by decide) rfl ?_
          refine jv_icmp_eq (q := 53) (tgt := 109) G dX8_selected_50 (by decide) rfl (fun c8 => ?_) (fun c8 => ?_)
          · exact absurd c8 (jv_nI_m1 (by omega))
          · refine jv_aload_n (q := 54) G 3 dX8_selected_53 rfl rfl rfl ?_
            refine jv_getQ (q := 57) G dX8_selected_54 fl_X8_56 rfl (hsc.S hS).1 (rf_p17 (hsc.S hS)) rfl ?_
            refine jv_iload (q := 59) G 0 dX8_selected_57 rfl rfl ?_
            refine jv_zald (q := 60) G dX8_selected_59 (rf_a17 (hsc.S hS)) rfl (by omega) (by decide) (hsc.M hS Mm3).2.2.2.2.1 rfl ?_
            refine jv_if_neB (q := 63) (tgt := 109) G dX8_selected_60 (by decide) rfl (fun c9 => ?_) (fun c9 => ?_)
            · refine jv_aload_n (q := 110) G 3 dX8_selected_109 rfl rfl rfl ?_
              refine jv_getQ (q := 113) G dX8_selected_110 fl_X8_32 rfl (hsc.S hS).1 (rf_p9 (hsc.S hS)) rfl ?_
              refine jv_iload (q := 115) G 1 dX8_selected_113 rfl rfl ?_
              refine jv_iald (q := 116) G dX8_selected_115 (rf_a9 (hsc.S hS)) rfl (by omega) (by decide) ((rt_9 (hsc.T hS Ttc)).trans (congrArg jv_oN hu)) rfl ?_
              refine jv_iconst (q := 117) (v := (-1)) G dX8_selected_116 (by decide) rfl ?_
              refine jv_icmp_ne (q := 120) (tgt := 124) G dX8_selected_117 (by decide) rfl (fun c10 => ?_) (fun c10 => ?_)
              · exact absurd rfl c10
              · refine jv_iconst (q := 121) (v := (-1)) G dX8_selected_120 (by decide) rfl ?_
                refine jv_goto (q := 136) G dX8_selected_121 (by decide) ?_
                refine jv_istore (q := 138) (lo' := [(5, .int (-1)), (6, .int (nI (6 * (10 * e + kc) + j2))), (4, .int (nI (10 * e + kd))), (0, .ref x), (1, .int (nI e)), (2, .int (nI (6 * (10 * e + kd) + jd))), (3, .int (nI (10 * e + kr)))]) G dX8_selected_136 (by decide) rfl rfl ?_
                refine jv_goto (q := 20) G dX8_selected_138 (by decide) ?_
                rw [sl_no (by simp only [*] <;> first | rfl | (rw [if_neg]; simp [m_slt, *]; try omega))] at hF
                dsimp only [Option.none_or] at hF
                refine jv_iload (q := 22) G 0 dX8_selected_20 rfl rfl ?_
                refine jv_iconst (q := 23) (v := (-1)) G dX8_selected_22 (by decide) rfl ?_
                refine jv_icmp_eq (q := 26) (tgt := 141) G dX8_selected_23 (by decide) rfl (fun c11 => ?_) (fun c11 => ?_)
                · refine jv_lo [0, 3, 4, 5, 6] (lo' := [(5, .int (-1)), (0, .ref x), (1, .int (nI e)), (2, .int (nI (6 * (10 * e + kd) + jd))), (3, .int (nI (10 * e + kr)))]) rfl ?_
                  exact r_sl2 hlt G Z hr hsc hS he hE hV hkd hjd hkr hF
                · exact absurd rfl c11
            · refine jv_aload_n (q := 64) G 3 dX8_selected_63 rfl rfl rfl ?_
              refine jv_getQ (q := 67) G dX8_selected_64 fl_X8_53 rfl (hsc.S hS).1 (rf_p16 (hsc.S hS)) rfl ?_
              refine jv_iload (q := 69) G 0 dX8_selected_67 rfl rfl ?_
              refine jv_iald (q := 70) G dX8_selected_69 (rf_a16 (hsc.S hS)) rfl (by omega) (by decide) (hsc.M hS Mm3).2.2.2.1 rfl ?_
              refine jv_if_leN (q := 73) (tgt := 109) G dX8_selected_70 (by decide) rfl (by omega) (fun c12 => ?_) (fun c12 => ?_)
              · refine jv_aload_n (q := 110) G 3 dX8_selected_109 rfl rfl rfl ?_
                refine jv_getQ (q := 113) G dX8_selected_110 fl_X8_32 rfl (hsc.S hS).1 (rf_p9 (hsc.S hS)) rfl ?_
                refine jv_iload (q := 115) G 1 dX8_selected_113 rfl rfl ?_
                refine jv_iald (q := 116) G dX8_selected_115 (rf_a9 (hsc.S hS)) rfl (by omega) (by decide) ((rt_9 (hsc.T hS Ttc)).trans (congrArg jv_oN hu)) rfl ?_
                refine jv_iconst (q := 117) (v := (-1)) G dX8_selected_116 (by decide) rfl ?_
                refine jv_icmp_ne (q := 120) (tgt := 124) G dX8_selected_117 (by decide) rfl (fun c13 => ?_) (fun c13 => ?_)
                · exact absurd rfl c13
                · refine jv_iconst (q := 121) (v := (-1)) G dX8_selected_120 (by decide) rfl ?_
                  refine jv_goto (q := 136) G dX8_selected_121 (by decide) ?_
                  refine jv_istore (q := 138) (lo' := [(5, .int (-1)), (6, .int (nI (6 * (10 * e + kc) + j2))), (4, .int (nI (10 * e + kd))), (0, .ref x), (1, .int (nI e)), (2, .int (nI (6 * (10 * e + kd) + jd))), (3, .int (nI (10 * e + kr)))]) G dX8_selected_136 (by decide) rfl rfl ?_
                  refine jv_goto (q := 20) G dX8_selected_138 (by decide) ?_
                  rw [sl_no (by simp only [*] <;> first | rfl | (rw [if_neg]; simp [m_slt, *]; try omega))] at hF
                  dsimp only [Option.none_or] at hF
                  refine jv_iload (q := 22) G 0 dX8_selected_20 rfl rfl ?_
                  refine jv_iconst (q := 23) (v := (-1)) G dX8_selected_22 (by decide) rfl ?_
                  refine jv_icmp_eq (q := 26) (tgt := 141) G dX8_selected_23 (by decide) rfl (fun c14 => ?_) (fun c14 => ?_)
                  · refine jv_lo [0, 3, 4, 5, 6] (lo' := [(5, .int (-1)), (0, .ref x), (1, .int (nI e)), (2, .int (nI (6 * (10 * e + kd) + jd))), (3, .int (nI (10 * e + kr)))]) rfl ?_
                    exact r_sl2 hlt G Z hr hsc hS he hE hV hkd hjd hkr hF
                  · exact absurd rfl c14
              · refine jv_iload (q := 75) G 0 dX8_selected_73 rfl rfl ?_
                refine jv_iload_n (q := 76) G 5 dX8_selected_75 rfl rfl rfl ?_
                refine jv_icmp_eqN (q := 79) (tgt := 106) G dX8_selected_76 (by decide) rfl (by omega) (by omega) (fun c15 => ?_) (fun c15 => ?_)
                · refine jv_iload (q := 108) G 0 dX8_selected_106 rfl rfl ?_
                  refine jv_iret G hr dX8_selected_108 (Nat.le_of_ble_eq_true rfl) (Nat.le_of_ble_eq_true rfl) ?_
                  refine ⟨?_, hsc⟩
                  rw [hF]
                  simp only [*]
                  rw [if_pos (by simp [m_slt, *]; try omega)]
                  first
                    | rfl
                    | exact congrArg (fun z => some (Value.int (nI z))) (show 6 * (10 * e + kd) + jd = 6 * (10 * e + kc) + j2 by omega)
                · refine jv_aload_n (q := 80) G 3 dX8_selected_79 rfl rfl rfl ?_
                  refine jv_getQ (q := 83) G dX8_selected_80 fl_X8_53 rfl (hsc.S hS).1 (rf_p16 (hsc.S hS)) rfl ?_
                  refine jv_iload_n (q := 84) G 5 dX8_selected_83 rfl rfl rfl ?_
                  refine jv_iald (q := 85) G dX8_selected_84 (rf_a16 (hsc.S hS)) rfl (by omega) (by decide) (hsc.M hS Mmd).2.2.2.1 rfl ?_
                  refine jv_iconst (q := 86) (v := nI 1) G dX8_selected_85 (by decide) rfl ?_
                  refine jv_icmp_gtN (q := 89) (tgt := 106) G dX8_selected_86 (by decide) rfl (by omega) (by omega) (fun c16 => ?_) (fun c16 => ?_)
                  · refine jv_iload (q := 108) G 0 dX8_selected_106 rfl rfl ?_
                    refine jv_iret G hr dX8_selected_108 (Nat.le_of_ble_eq_true rfl) (Nat.le_of_ble_eq_true rfl) ?_
                    refine ⟨?_, hsc⟩
                    rw [hF]
                    simp only [*]
                    rw [if_pos (by simp [m_slt, *]; try omega)]
                    first
                      | rfl
                      | exact congrArg (fun z => some (Value.int (nI z))) (show 6 * (10 * e + kd) + jd = 6 * (10 * e + kc) + j2 by omega)
                  · refine jv_aload_n (q := 90) G 3 dX8_selected_89 rfl rfl rfl ?_
                    refine jv_getQ (q := 93) G dX8_selected_90 fl_X8_26 rfl (hsc.S hS).1 (rf_p7 (hsc.S hS)) rfl ?_
                    refine jv_iload (q := 95) G 1 dX8_selected_93 rfl rfl ?_
                    refine jv_iald (q := 96) G dX8_selected_95 (rf_a7 (hsc.S hS)) rfl (by omega) (by decide) (rt_7 (hsc.T hS Ttc)) rfl ?_
                    refine jv_aload_n (q := 97) G 3 dX8_selected_96 rfl rfl rfl ?_
                    refine jv_getQ (q := 100) G dX8_selected_97 fl_X8_26 rfl (hsc.S hS).1 (rf_p7 (hsc.S hS)) rfl ?_
                    refine jv_iload (q := 102) G 2 dX8_selected_100 rfl rfl ?_
                    refine jv_iald (q := 103) G dX8_selected_102 (rf_a7 (hsc.S hS)) rfl (by omega) (by decide) (rt_7 (hsc.T hS Ttd)) rfl ?_
                    refine jv_icmp_neN (q := 106) (tgt := 109) G dX8_selected_103 (by decide) rfl (by omega) (by omega) (fun c17 => ?_) (fun c17 => ?_)
                    · refine jv_aload_n (q := 110) G 3 dX8_selected_109 rfl rfl rfl ?_
                      refine jv_getQ (q := 113) G dX8_selected_110 fl_X8_32 rfl (hsc.S hS).1 (rf_p9 (hsc.S hS)) rfl ?_
                      refine jv_iload (q := 115) G 1 dX8_selected_113 rfl rfl ?_
                      refine jv_iald (q := 116) G dX8_selected_115 (rf_a9 (hsc.S hS)) rfl (by omega) (by decide) ((rt_9 (hsc.T hS Ttc)).trans (congrArg jv_oN hu)) rfl ?_
                      refine jv_iconst (q := 117) (v := (-1)) G dX8_selected_116 (by decide) rfl ?_
                      refine jv_icmp_ne (q := 120) (tgt := 124) G dX8_selected_117 (by decide) rfl (fun c18 => ?_) (fun c18 => ?_)
                      · exact absurd rfl c18
                      · refine jv_iconst (q := 121) (v := (-1)) G dX8_selected_120 (by decide) rfl ?_
                        refine jv_goto (q := 136) G dX8_selected_121 (by decide) ?_
                        refine jv_istore (q := 138) (lo' := [(5, .int (-1)), (6, .int (nI (6 * (10 * e + kc) + j2))), (4, .int (nI (10 * e + kd))), (0, .ref x), (1, .int (nI e)), (2, .int (nI (6 * (10 * e + kd) + jd))), (3, .int (nI (10 * e + kr)))]) G dX8_selected_136 (by decide) rfl rfl ?_
                        refine jv_goto (q := 20) G dX8_selected_138 (by decide) ?_
                        rw [sl_no (by simp only [*] <;> first | rfl | (rw [if_neg]; simp [m_slt, *]; try omega))] at hF
                        dsimp only [Option.none_or] at hF
                        refine jv_iload (q := 22) G 0 dX8_selected_20 rfl rfl ?_
                        refine jv_iconst (q := 23) (v := (-1)) G dX8_selected_22 (by decide) rfl ?_
                        refine jv_icmp_eq (q := 26) (tgt := 141) G dX8_selected_23 (by decide) rfl (fun c19 => ?_) (fun c19 => ?_)
                        · refine jv_lo [0, 3, 4, 5, 6] (lo' := [(5, .int (-1)), (0, .ref x), (1, .int (nI e)), (2, .int (nI (6 * (10 * e + kd) + jd))), (3, .int (nI (10 * e + kr)))]) rfl ?_
                          exact r_sl2 hlt G Z hr hsc hS he hE hV hkd hjd hkr hF
                        · exact absurd rfl c19
                    · refine jv_iload (q := 108) G 0 dX8_selected_106 rfl rfl ?_
                      refine jv_iret G hr dX8_selected_108 (Nat.le_of_ble_eq_true rfl) (Nat.le_of_ble_eq_true rfl) ?_
                      refine ⟨?_, hsc⟩
                      rw [hF]
                      simp only [*]
                      rw [if_pos (by simp [m_slt, *]; try omega)]
                      first
                        | rfl
                        | exact congrArg (fun z => some (Value.int (nI z))) (show 6 * (10 * e + kd) + jd = 6 * (10 * e + kc) + j2 by omega)
    · obtain ⟨k1, hk1, hg1⟩ := hsup u hu
      have hu16 := (Otc.2.2.1 u hu).1
      obtain ⟨t1, ht1, -, hk1l⟩ := m_at_some hk1
      rw [hu] at hF; dsimp only [Option.bind_some] at hF; rw [hk1] at hF; dsimp only [Option.bind_some] at hF
      refine jv_iload (q := 22) G 0 dX8_selected_20 rfl rfl ?_
      refine jv_iconst (q := 23) (v := (-1)) G dX8_selected_22 (by decide) rfl ?_
      refine jv_icmp_eq (q := 26) (tgt := 141) G dX8_selected_23 (by decide) rfl (fun c1 => ?_) (fun c1 => ?_)
      · exact absurd c1 (jv_nI_m1 (by omega))
      · refine jv_aload_n (q := 27) G 2 dX8_selected_26 rfl rfl rfl ?_
        refine jv_iload (q := 29) G 0 dX8_selected_27 rfl rfl ?_
        refine jv_iconst (q := 30) (v := nI 1) G dX8_selected_29 (by decide) rfl ?_
        refine jv_aload_n (q := 31) G 2 dX8_selected_30 rfl rfl rfl ?_
        refine jv_getQ (q := 34) G dX8_selected_31 fl_X8_47 rfl (hsc.S hS).1 (rf_p14 (hsc.S hS)) rfl ?_
        refine jv_iload_n (q := 35) G 4 dX8_selected_34 rfl rfl rfl ?_
        refine jv_iald (q := 36) G dX8_selected_35 (rf_a14 (hsc.S hS)) rfl (by omega) (by decide) (hsc.M hS Mmd).2.1 rfl ?_
        refine jv_aload_n (q := 37) G 2 dX8_selected_36 rfl rfl rfl ?_
        refine jv_getQ (q := 40) G dX8_selected_37 fl_X8_50 rfl (hsc.S hS).1 (rf_p15 (hsc.S hS)) rfl ?_
        refine jv_iload_n (q := 41) G 4 dX8_selected_40 rfl rfl rfl ?_
        refine jv_iald (q := 42) G dX8_selected_41 (rf_a15 (hsc.S hS)) rfl (by omega) (by decide) (hsc.M hS Mmd).2.2.1 rfl ?_
        refine jv_callV_I (q := 45) (h1 := h) (As := [.int (nI (10 * e + kc)), .int (nI 1), .int (nI (mm_n md)), .int (nI (mm_s md))]) (rest := []) (ce' := 0) (sl' := 0) (r := jv_oN ((m_own tc (nI 1) (nI (mm_n md)) (nI (mm_s md))).map (fun j => 6 * (10 * e + kc) + j))) G Z ml_X8_155 (r_own hlt (hsc.S hS) (by omega) (hsc.T hS Ttc) Otc) (hsc.S hS).1 dX8_selected_42 rfl (by decide) (by decide) (by decide) (by decide) (Nat.le_of_ble_eq_true rfl) rfl rfl rfl rfl ?_
        rcases Option.eq_none_or_eq_some (m_own tc (nI 1) (nI (mm_n md)) (nI (mm_s md))) with hj4 | ⟨j2, hj4⟩
        · refine jv_topI (y := (-1)) (by rw [hj4]; rfl) ?_
          refine jv_istore (q := 47) (lo' := [(6, .int (-1)), (5, .int (nI (10 * e + kc))), (4, .int (nI (10 * e + kd))), (0, .ref x), (1, .int (nI e)), (2, .int (nI (6 * (10 * e + kd) + jd))), (3, .int (nI (10 * e + kr)))]) G dX8_selected_45 (by decide) rfl rfl ?_
          refine jv_iload (q := 49) G 0 dX8_selected_47 rfl rfl ?_
          refine jv_iconst (q := 50) (v := (-1)) G dX8_selected_49 (by decide) rfl ?_
          refine jv_icmp_eq (q := 53) (tgt := 109) G dX8_selected_50 (by decide) rfl (fun c5 => ?_) (fun c5 => ?_)
          · refine jv_aload_n (q := 110) G 3 dX8_selected_109 rfl rfl rfl ?_
            refine jv_getQ (q := 113) G dX8_selected_110 fl_X8_32 rfl (hsc.S hS).1 (rf_p9 (hsc.S hS)) rfl ?_
            refine jv_iload (q := 115) G 1 dX8_selected_113 rfl rfl ?_
            refine jv_iald (q := 116) G dX8_selected_115 (rf_a9 (hsc.S hS)) rfl (by omega) (by decide) ((rt_9 (hsc.T hS Ttc)).trans (congrArg jv_oN hu)) rfl ?_
            refine jv_iconst (q := 117) (v := (-1)) G dX8_selected_116 (by decide) rfl ?_
            refine jv_icmp_ne (q := 120) (tgt := 124) G dX8_selected_117 (by decide) rfl (fun c6 => ?_) (fun c6 => ?_)
            · refine jv_aload_n (q := 125) G 3 dX8_selected_124 rfl rfl rfl ?_
              refine jv_iload_n (q := 126) G 4 dX8_selected_125 rfl rfl rfl ?_
              refine jv_aload_n (q := 127) G 3 dX8_selected_126 rfl rfl rfl ?_
              refine jv_getQ (q := 130) G dX8_selected_127 fl_X8_32 rfl (hsc.S hS).1 (rf_p9 (hsc.S hS)) rfl ?_
              refine jv_iload (q := 132) G 1 dX8_selected_130 rfl rfl ?_
              refine jv_iald (q := 133) G dX8_selected_132 (rf_a9 (hsc.S hS)) rfl (by omega) (by decide) ((rt_9 (hsc.T hS Ttc)).trans (congrArg jv_oN hu)) rfl ?_
              refine jv_callV_I (q := 136) (h1 := h) (As := [.int (nI e), .int (nI u)]) (rest := []) (ce' := 0) (sl' := 0) (r := jv_oN ((m_at ts (nI u)).map (fun k => 10 * e + k))) G Z ml_X8_151 (r_at hlt (hsc.S hS) he (hsc.E hS hE)) (hsc.S hS).1 dX8_selected_133 rfl (by decide) (by decide) (by decide) (by decide) (Nat.le_of_ble_eq_true rfl) rfl rfl rfl rfl ?_
              refine jv_topI (y := nI (10 * e + k1)) (by rw [hk1]; rfl) ?_
              refine jv_istore (q := 138) (lo' := [(5, .int (nI (10 * e + k1))), (6, .int (-1)), (4, .int (nI (10 * e + kd))), (0, .ref x), (1, .int (nI e)), (2, .int (nI (6 * (10 * e + kd) + jd))), (3, .int (nI (10 * e + kr)))]) G dX8_selected_136 (by decide) rfl rfl ?_
              refine jv_goto (q := 20) G dX8_selected_138 (by decide) ?_
              rw [sl_no (by simp only [*] <;> first | rfl | (rw [if_neg]; simp [m_slt, *]; try omega))] at hF
              refine jv_lo [0, 2, 3, 4, 5, 6] (lo' := [(5, .int (nI (10 * e + k1))), (4, .int (nI (10 * e + kd))), (0, .ref x), (1, .int (nI e)), (2, .int (nI (6 * (10 * e + kd) + jd))), (3, .int (nI (10 * e + kr)))]) rfl ?_
              exact ih k1 t1 ht1 hg1 hF
            · exact absurd c6 (jv_nI_m1 (by omega))
          · exact absurd rfl c5
        · refine jv_topI (y := nI (6 * (10 * e + kc) + j2)) (by rw [hj4]; rfl) ?_
          obtain ⟨m3, hm3, wm3, nm3, sm3, lm3⟩ := m_own_some hj4
          have Mm3 := rt_m Ttc hm3
          have Om3 := Otc.2.2.2.2.2.2 m3 (List.mem_of_getElem? hm3)
          have Lm3 := Otc.2.2.2.2.2.1
          have Bm3n := Om3.1; have Bm3s := Om3.2.1; have Bm3a := Om3.2.2.1
          refine jv_istore (q := 47) (lo' := [(6, .int (nI (6 * (10 * e + kc) + j2))), (5, .int (nI (10 * e + kc))), (4, .int (nI (10 * e + kd))), (0, .ref x), (1, .int (nI e)), (2, .int (nI (6 * (10 * e + kd) + jd))), (3, .int (nI (10 * e + kr)))]) G dX8_selected_45 (by decide) rfl rfl ?_
          refine jv_iload (q := 49) G 0 dX8_selected_47 rfl rfl ?_
          refine jv_iconst (q := 50) (v := (-1)) G dX8_selected_49 (by decide) rfl ?_
          refine jv_icmp_eq (q := 53) (tgt := 109) G dX8_selected_50 (by decide) rfl (fun c7 => ?_) (fun c7 => ?_)
          · exact absurd c7 (jv_nI_m1 (by omega))
          · refine jv_aload_n (q := 54) G 3 dX8_selected_53 rfl rfl rfl ?_
            refine jv_getQ (q := 57) G dX8_selected_54 fl_X8_56 rfl (hsc.S hS).1 (rf_p17 (hsc.S hS)) rfl ?_
            refine jv_iload (q := 59) G 0 dX8_selected_57 rfl rfl ?_
            refine jv_zald (q := 60) G dX8_selected_59 (rf_a17 (hsc.S hS)) rfl (by omega) (by decide) (hsc.M hS Mm3).2.2.2.2.1 rfl ?_
            refine jv_if_neB (q := 63) (tgt := 109) G dX8_selected_60 (by decide) rfl (fun c8 => ?_) (fun c8 => ?_)
            · refine jv_aload_n (q := 110) G 3 dX8_selected_109 rfl rfl rfl ?_
              refine jv_getQ (q := 113) G dX8_selected_110 fl_X8_32 rfl (hsc.S hS).1 (rf_p9 (hsc.S hS)) rfl ?_
              refine jv_iload (q := 115) G 1 dX8_selected_113 rfl rfl ?_
              refine jv_iald (q := 116) G dX8_selected_115 (rf_a9 (hsc.S hS)) rfl (by omega) (by decide) ((rt_9 (hsc.T hS Ttc)).trans (congrArg jv_oN hu)) rfl ?_
              refine jv_iconst (q := 117) (v := (-1)) G dX8_selected_116 (by decide) rfl ?_
              refine jv_icmp_ne (q := 120) (tgt := 124) G dX8_selected_117 (by decide) rfl (fun c9 => ?_) (fun c9 => ?_)
              · refine jv_aload_n (q := 125) G 3 dX8_selected_124 rfl rfl rfl ?_
                refine jv_iload_n (q := 126) G 4 dX8_selected_125 rfl rfl rfl ?_
                refine jv_aload_n (q := 127) G 3 dX8_selected_126 rfl rfl rfl ?_
                refine jv_getQ (q := 130) G dX8_selected_127 fl_X8_32 rfl (hsc.S hS).1 (rf_p9 (hsc.S hS)) rfl ?_
                refine jv_iload (q := 132) G 1 dX8_selected_130 rfl rfl ?_
                refine jv_iald (q := 133) G dX8_selected_132 (rf_a9 (hsc.S hS)) rfl (by omega) (by decide) ((rt_9 (hsc.T hS Ttc)).trans (congrArg jv_oN hu)) rfl ?_
                refine jv_callV_I (q := 136) (h1 := h) (As := [.int (nI e), .int (nI u)]) (rest := []) (ce' := 0) (sl' := 0) (r := jv_oN ((m_at ts (nI u)).map (fun k => 10 * e + k))) G Z ml_X8_151 (r_at hlt (hsc.S hS) he (hsc.E hS hE)) (hsc.S hS).1 dX8_selected_133 rfl (by decide) (by decide) (by decide) (by decide) (Nat.le_of_ble_eq_true rfl) rfl rfl rfl rfl ?_
                refine jv_topI (y := nI (10 * e + k1)) (by rw [hk1]; rfl) ?_
                refine jv_istore (q := 138) (lo' := [(5, .int (nI (10 * e + k1))), (6, .int (nI (6 * (10 * e + kc) + j2))), (4, .int (nI (10 * e + kd))), (0, .ref x), (1, .int (nI e)), (2, .int (nI (6 * (10 * e + kd) + jd))), (3, .int (nI (10 * e + kr)))]) G dX8_selected_136 (by decide) rfl rfl ?_
                refine jv_goto (q := 20) G dX8_selected_138 (by decide) ?_
                rw [sl_no (by simp only [*] <;> first | rfl | (rw [if_neg]; simp [m_slt, *]; try omega))] at hF
                refine jv_lo [0, 2, 3, 4, 5, 6] (lo' := [(5, .int (nI (10 * e + k1))), (4, .int (nI (10 * e + kd))), (0, .ref x), (1, .int (nI e)), (2, .int (nI (6 * (10 * e + kd) + jd))), (3, .int (nI (10 * e + kr)))]) rfl ?_
                exact ih k1 t1 ht1 hg1 hF
              · exact absurd c9 (jv_nI_m1 (by omega))
            · refine jv_aload_n (q := 64) G 3 dX8_selected_63 rfl rfl rfl ?_
              refine jv_getQ (q := 67) G dX8_selected_64 fl_X8_53 rfl (hsc.S hS).1 (rf_p16 (hsc.S hS)) rfl ?_
              refine jv_iload (q := 69) G 0 dX8_selected_67 rfl rfl ?_
              refine jv_iald (q := 70) G dX8_selected_69 (rf_a16 (hsc.S hS)) rfl (by omega) (by decide) (hsc.M hS Mm3).2.2.2.1 rfl ?_
              refine jv_if_leN (q := 73) (tgt := 109) G dX8_selected_70 (by decide) rfl (by omega) (fun c10 => ?_) (fun c10 => ?_)
              · refine jv_aload_n (q := 110) G 3 dX8_selected_109 rfl rfl rfl ?_
                refine jv_getQ (q := 113) G dX8_selected_110 fl_X8_32 rfl (hsc.S hS).1 (rf_p9 (hsc.S hS)) rfl ?_
                refine jv_iload (q := 115) G 1 dX8_selected_113 rfl rfl ?_
                refine jv_iald (q := 116) G dX8_selected_115 (rf_a9 (hsc.S hS)) rfl (by omega) (by decide) ((rt_9 (hsc.T hS Ttc)).trans (congrArg jv_oN hu)) rfl ?_
                refine jv_iconst (q := 117) (v := (-1)) G dX8_selected_116 (by decide) rfl ?_
                refine jv_icmp_ne (q := 120) (tgt := 124) G dX8_selected_117 (by decide) rfl (fun c11 => ?_) (fun c11 => ?_)
                · refine jv_aload_n (q := 125) G 3 dX8_selected_124 rfl rfl rfl ?_
                  refine jv_iload_n (q := 126) G 4 dX8_selected_125 rfl rfl rfl ?_
                  refine jv_aload_n (q := 127) G 3 dX8_selected_126 rfl rfl rfl ?_
                  refine jv_getQ (q := 130) G dX8_selected_127 fl_X8_32 rfl (hsc.S hS).1 (rf_p9 (hsc.S hS)) rfl ?_
                  refine jv_iload (q := 132) G 1 dX8_selected_130 rfl rfl ?_
                  refine jv_iald (q := 133) G dX8_selected_132 (rf_a9 (hsc.S hS)) rfl (by omega) (by decide) ((rt_9 (hsc.T hS Ttc)).trans (congrArg jv_oN hu)) rfl ?_
                  refine jv_callV_I (q := 136) (h1 := h) (As := [.int (nI e), .int (nI u)]) (rest := []) (ce' := 0) (sl' := 0) (r := jv_oN ((m_at ts (nI u)).map (fun k => 10 * e + k))) G Z ml_X8_151 (r_at hlt (hsc.S hS) he (hsc.E hS hE)) (hsc.S hS).1 dX8_selected_133 rfl (by decide) (by decide) (by decide) (by decide) (Nat.le_of_ble_eq_true rfl) rfl rfl rfl rfl ?_
                  refine jv_topI (y := nI (10 * e + k1)) (by rw [hk1]; rfl) ?_
                  refine jv_istore (q := 138) (lo' := [(5, .int (nI (10 * e + k1))), (6, .int (nI (6 * (10 * e + kc) + j2))), (4, .int (nI (10 * e + kd))), (0, .ref x), (1, .int (nI e)), (2, .int (nI (6 * (10 * e + kd) + jd))), (3, .int (nI (10 * e + kr)))]) G dX8_selected_136 (by decide) rfl rfl ?_
                  refine jv_goto (q := 20) G dX8_selected_138 (by decide) ?_
                  rw [sl_no (by simp only [*] <;> first | rfl | (rw [if_neg]; simp [m_slt, *]; try omega))] at hF
                  refine jv_lo [0, 2, 3, 4, 5, 6] (lo' := [(5, .int (nI (10 * e + k1))), (4, .int (nI (10 * e + kd))), (0, .ref x), (1, .int (nI e)), (2, .int (nI (6 * (10 * e + kd) + jd))), (3, .int (nI (10 * e + kr)))]) rfl ?_
                  exact ih k1 t1 ht1 hg1 hF
                · exact absurd c11 (jv_nI_m1 (by omega))
              · refine jv_iload (q := 75) G 0 dX8_selected_73 rfl rfl ?_
                refine jv_iload_n (q := 76) G 5 dX8_selected_75 rfl rfl rfl ?_
                refine jv_icmp_eqN (q := 79) (tgt := 106) G dX8_selected_76 (by decide) rfl (by omega) (by omega) (fun c12 => ?_) (fun c12 => ?_)
                · refine jv_iload (q := 108) G 0 dX8_selected_106 rfl rfl ?_
                  refine jv_iret G hr dX8_selected_108 (Nat.le_of_ble_eq_true rfl) (Nat.le_of_ble_eq_true rfl) ?_
                  refine ⟨?_, hsc⟩
                  rw [hF]
                  simp only [*]
                  rw [if_pos (by simp [m_slt, *]; try omega)]
                  first
                    | rfl
                    | exact congrArg (fun z => some (Value.int (nI z))) (show 6 * (10 * e + kd) + jd = 6 * (10 * e + kc) + j2 by omega)
                · refine jv_aload_n (q := 80) G 3 dX8_selected_79 rfl rfl rfl ?_
                  refine jv_getQ (q := 83) G dX8_selected_80 fl_X8_53 rfl (hsc.S hS).1 (rf_p16 (hsc.S hS)) rfl ?_
                  refine jv_iload_n (q := 84) G 5 dX8_selected_83 rfl rfl rfl ?_
                  refine jv_iald (q := 85) G dX8_selected_84 (rf_a16 (hsc.S hS)) rfl (by omega) (by decide) (hsc.M hS Mmd).2.2.2.1 rfl ?_
                  refine jv_iconst (q := 86) (v := nI 1) G dX8_selected_85 (by decide) rfl ?_
                  refine jv_icmp_gtN (q := 89) (tgt := 106) G dX8_selected_86 (by decide) rfl (by omega) (by omega) (fun c13 => ?_) (fun c13 => ?_)
                  · refine jv_iload (q := 108) G 0 dX8_selected_106 rfl rfl ?_
                    refine jv_iret G hr dX8_selected_108 (Nat.le_of_ble_eq_true rfl) (Nat.le_of_ble_eq_true rfl) ?_
                    refine ⟨?_, hsc⟩
                    rw [hF]
                    simp only [*]
                    rw [if_pos (by simp [m_slt, *]; try omega)]
                    first
                      | rfl
                      | exact congrArg (fun z => some (Value.int (nI z))) (show 6 * (10 * e + kd) + jd = 6 * (10 * e + kc) + j2 by omega)
                  · refine jv_aload_n (q := 90) G 3 dX8_selected_89 rfl rfl rfl ?_
                    refine jv_getQ (q := 93) G dX8_selected_90 fl_X8_26 rfl (hsc.S hS).1 (rf_p7 (hsc.S hS)) rfl ?_
                    refine jv_iload (q := 95) G 1 dX8_selected_93 rfl rfl ?_
                    refine jv_iald (q := 96) G dX8_selected_95 (rf_a7 (hsc.S hS)) rfl (by omega) (by decide) (rt_7 (hsc.T hS Ttc)) rfl ?_
                    refine jv_aload_n (q := 97) G 3 dX8_selected_96 rfl rfl rfl ?_
                    refine jv_getQ (q := 100) G dX8_selected_97 fl_X8_26 rfl (hsc.S hS).1 (rf_p7 (hsc.S hS)) rfl ?_
                    refine jv_iload (q := 102) G 2 dX8_selected_100 rfl rfl ?_
                    refine jv_iald (q := 103) G dX8_selected_102 (rf_a7 (hsc.S hS)) rfl (by omega) (by decide) (rt_7 (hsc.T hS Ttd)) rfl ?_
                    refine jv_icmp_neN (q := 106) (tgt := 109) G dX8_selected_103 (by decide) rfl (by omega) (by omega) (fun c14 => ?_) (fun c14 => ?_)
                    · refine jv_aload_n (q := 110) G 3 dX8_selected_109 rfl rfl rfl ?_
                      refine jv_getQ (q := 113) G dX8_selected_110 fl_X8_32 rfl (hsc.S hS).1 (rf_p9 (hsc.S hS)) rfl ?_
                      refine jv_iload (q := 115) G 1 dX8_selected_113 rfl rfl ?_
                      refine jv_iald (q := 116) G dX8_selected_115 (rf_a9 (hsc.S hS)) rfl (by omega) (by decide) ((rt_9 (hsc.T hS Ttc)).trans (congrArg jv_oN hu)) rfl ?_
                      refine jv_iconst (q := 117) (v := (-1)) G dX8_selected_116 (by decide) rfl ?_
                      refine jv_icmp_ne (q := 120) (tgt := 124) G dX8_selected_117 (by decide) rfl (fun c15 => ?_) (fun c15 => ?_)
                      · refine jv_aload_n (q := 125) G 3 dX8_selected_124 rfl rfl rfl ?_
                        refine jv_iload_n (q := 126) G 4 dX8_selected_125 rfl rfl rfl ?_
                        refine jv_aload_n (q := 127) G 3 dX8_selected_126 rfl rfl rfl ?_
                        refine jv_getQ (q := 130) G dX8_selected_127 fl_X8_32 rfl (hsc.S hS).1 (rf_p9 (hsc.S hS)) rfl ?_
                        refine jv_iload (q := 132) G 1 dX8_selected_130 rfl rfl ?_
                        refine jv_iald (q := 133) G dX8_selected_132 (rf_a9 (hsc.S hS)) rfl (by omega) (by decide) ((rt_9 (hsc.T hS Ttc)).trans (congrArg jv_oN hu)) rfl ?_
                        refine jv_callV_I (q := 136) (h1 := h) (As := [.int (nI e), .int (nI u)]) (rest := []) (ce' := 0) (sl' := 0) (r := jv_oN ((m_at ts (nI u)).map (fun k => 10 * e + k))) G Z ml_X8_151 (r_at hlt (hsc.S hS) he (hsc.E hS hE)) (hsc.S hS).1 dX8_selected_133 rfl (by decide) (by decide) (by decide) (by decide) (Nat.le_of_ble_eq_true rfl) rfl rfl rfl rfl ?_
                        refine jv_topI (y := nI (10 * e + k1)) (by rw [hk1]; rfl) ?_
                        refine jv_istore (q := 138) (lo' := [(5, .int (nI (10 * e + k1))), (6, .int (nI (6 * (10 * e + kc) + j2))), (4, .int (nI (10 * e + kd))), (0, .ref x), (1, .int (nI e)), (2, .int (nI (6 * (10 * e + kd) + jd))), (3, .int (nI (10 * e + kr)))]) G dX8_selected_136 (by decide) rfl rfl ?_
                        refine jv_goto (q := 20) G dX8_selected_138 (by decide) ?_
                        rw [sl_no (by simp only [*] <;> first | rfl | (rw [if_neg]; simp [m_slt, *]; try omega))] at hF
                        refine jv_lo [0, 2, 3, 4, 5, 6] (lo' := [(5, .int (nI (10 * e + k1))), (4, .int (nI (10 * e + kd))), (0, .ref x), (1, .int (nI e)), (2, .int (nI (6 * (10 * e + kd) + jd))), (3, .int (nI (10 * e + kr)))]) rfl ?_
                        exact ih k1 t1 ht1 hg1 hF
                      · exact absurd c15 (jv_nI_m1 (by omega))
                    · refine jv_iload (q := 108) G 0 dX8_selected_106 rfl rfl ?_
                      refine jv_iret G hr dX8_selected_108 (Nat.le_of_ble_eq_true rfl) (Nat.le_of_ble_eq_true rfl) ?_
                      refine ⟨?_, hsc⟩
                      rw [hF]
                      simp only [*]
                      rw [if_pos (by simp [m_slt, *]; try omega)]
                      first
                        | rfl
                        | exact congrArg (fun z => some (Value.int (nI z))) (show 6 * (10 * e + kd) + jd = 6 * (10 * e + kc) + j2 by omega)
set_option maxHeartbeats 4000000 in
set_option maxRecDepth 100000 in
theorem r_selected {lA : Launch} (hlt : lA.stackTraces = false) {D : jv_D} {base : Nat} {x : Nat} {q : Nat → Nat} {h0 h : jv_H} {e kd jd kr : Nat} {ts : List mT} {td tr : mT} {md : mM} {d : Nat} (hsc : sc x q h0 h) (hS : rf_S x q h0) (he : e < 8) (hE : rf_E q h0 e ts) (hV : rf_V q h0 e ts) (hkd : ts[kd]? = some td) (hjd : (mt_m td)[jd]? = some md) (hkr : ts[kr]? = some tr) (hh : m_hg ts d kr) : jv_Met lA D base yX8_selected (.code yX8_selected cX8_selected 7 (some .int)) 4 0 0 [.ref x, .int (nI e), .int (nI (6 * (10 * e + kd) + jd)), .int (nI (10 * e + kr))] h (fun v h' => v = some (.int (ffE e (m_sl ts d td md kd jd kr))) ∧ sc x q h0 h') jv_no := by
  refine jv_ofV (lo := [(0, .ref x), (1, .int (nI e)), (2, .int (nI (6 * (10 * e + kd) + jd))), (3, .int (nI (10 * e + kr)))]) hlt (by decide) (Nat.le_of_ble_eq_true rfl) rfl (fun E hEl hEd hEz Z G hr ht hnm => ?_)
  subst hEl; subst hEd; subst hEz
  have hlen := hE.2.1
  have hkdl := jv_ltGet hkd
  have hkrl := jv_ltGet hkr
  have Ttd := (hE.2.2 kd td hkd).1
  have Otd := (hE.2.2 kd td hkd).2
  have Ttr := (hE.2.2 kr tr hkr).1
  have Otr := (hE.2.2 kr tr hkr).2
  have Mmd := rt_m Ttd hjd
  have Omd := Otd.2.2.2.2.2.2 md (List.mem_of_getElem? hjd)
  have hjdl := jv_ltGet hjd
  have hjd6 := Otd.2.2.2.2.2.1
  have Bmdn := Omd.1
  have Bmds := Omd.2.1
  have Bmda := Omd.2.2.1
  have Btdk := Otd.2.1
  refine jv_aload_n (q := 1) G 0 dX8_selected_0 rfl rfl rfl ?_
  refine jv_getQ (q := 4) G dX8_selected_1 fl_X8_53 rfl (hsc.S hS).1 (rf_p16 (hsc.S hS)) rfl ?_
  refine jv_iload_n (q := 5) G 2 dX8_selected_4 rfl rfl rfl ?_
  refine jv_iald (q := 6) G dX8_selected_5 (rf_a16 (hsc.S hS)) rfl (by omega) (by decide) (hsc.M hS Mmd).2.2.2.1 rfl ?_
  refine jv_if_neN (q := 9) (tgt := 11) G dX8_selected_6 (by decide) rfl (by omega) (fun c1 => ?_) (fun c1 => ?_)
  · refine jv_iload_n (q := 12) G 2 dX8_selected_11 rfl rfl rfl ?_
    refine jv_callS_I (q := 15) (h1 := h) (As := [.int (nI (6 * (10 * e + kd) + jd))]) (rest := []) (ce' := 0) (sl' := 0) (r := nI ((6 * (10 * e + kd) + jd) / 6)) G Z ml_X8_183 (r_typeOf hlt (by omega)) dX8_selected_12 rfl (by decide) (by decide) (by decide) (by decide) (Nat.le_of_ble_eq_true rfl) rfl rfl rfl rfl ?_
    refine jv_topI (y := nI (10 * e + kd)) (congrArg nI (by omega)) ?_
    refine jv_istore (q := 17) (lo' := [(4, .int (nI (10 * e + kd))), (0, .ref x), (1, .int (nI e)), (2, .int (nI (6 * (10 * e + kd) + jd))), (3, .int (nI (10 * e + kr)))]) G dX8_selected_15 (by decide) rfl rfl ?_
    refine jv_iload_n (q := 18) G 4 dX8_selected_17 rfl rfl rfl ?_
    refine jv_istore (q := 20) (lo' := [(5, .int (nI (10 * e + kr))), (4, .int (nI (10 * e + kd))), (0, .ref x), (1, .int (nI e)), (2, .int (nI (6 * (10 * e + kd) + jd))), (3, .int (nI (10 * e + kr)))]) G dX8_selected_18 (by decide) rfl rfl ?_
    refine jv_lo [0, 1, 2, 3, 4, 5] (lo' := [(5, .int (nI (10 * e + kr))), (4, .int (nI (10 * e + kd))), (0, .ref x), (1, .int (nI e)), (2, .int (nI (6 * (10 * e + kd) + jd))), (3, .int (nI (10 * e + kr)))]) rfl ?_
    exact r_sl1 hlt G Z hr hsc hS he hE hV hkd hjd hkr d kr tr hkr hh (by unfold m_sl; rw [hkr]; dsimp only; rw [if_neg (by assumption)])
  · refine jv_iload_n (q := 10) G 2 dX8_selected_9 rfl rfl rfl ?_
    refine jv_iret G hr dX8_selected_10 (Nat.le_of_ble_eq_true rfl) (Nat.le_of_ble_eq_true rfl) ?_
    exact ⟨by unfold m_sl; rw [hkr]; dsimp only; rw [if_pos (by assumption)]; rfl, hsc⟩
