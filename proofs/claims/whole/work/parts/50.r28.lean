def m_cl (M : mA) (e : Int32) (f : Nat → Nat × Int32 × mA) : Nat × Int32 × mA := match m_ix1 M.1.length e with
  | none => (1, 0, M)
  | some k => if ma_s M k then f k else (2, 0, M)
theorem m_cl_no {M : mA} {e : Int32} {f : Nat → Nat × Int32 × mA} (h : ¬ m_seF M e = 0) : m_cl M e f = (m_seF M e, 0, M) := by
  unfold m_cl m_seF at *
  cases hq : m_ix1 M.1.length e with
  | none => rfl
  | some k =>
    rw [hq] at h
    dsimp only at h ⊢
    cases hs : ma_s M k with
    | false => rfl
    | true => rw [hs] at h; exact absurd rfl h
theorem m_cl_yes {M : mA} {e : Int32} {k : Nat} {f : Nat → Nat × Int32 × mA} (h : m_ix1 M.1.length e = some k) (hs : ma_s M k = true) : m_cl M e f = f k := by
  unfold m_cl
  rw [h]
  dsimp only
  rw [hs]; rfl
def m_caG (ts : List mT) (s : Int32) : Bool := decide (s = -1) || (match m_at ts s with
  | none => false
  | some i => (ts[i]?).any (fun t => !mt_i t))
def m_ca (M : mA) (e p s : Int32) : Nat × Int32 × mA := m_cl M e (fun k => if rr_in p (nI 0) (nI 4) && m_caG (ma_t M k) s then if M.2.length = 12 then (4, 0, M) else (0, nI M.2.length, M.1, M.2 ++ [(k, p.toNatClampNeg, m_oI s, [])]) else (3, 0, M))
theorem caG_oI {ts : List mT} {s : Int32} (hb : ∀ t ∈ ts, mt_n t < 16) (h : m_caG ts s = true) : s = jv_oN (m_oI s) ∧ ∀ u, m_oI s = some u → u < 16 := by
  unfold m_oI
  by_cases hs : s = -1
  · rw [if_pos hs, hs]
    exact ⟨rfl, fun u e => by cases e⟩
  · rw [if_neg hs]
    unfold m_caG at h
    rw [decide_eq_false hs, Bool.false_or] at h
    cases ha : m_at ts s with
    | none => rw [ha] at h; cases h
    | some i =>
      obtain ⟨t, h1, h2, -⟩ := m_at_some ha
      have h3 := hb t (List.mem_of_getElem? h1)
      rw [← h2, nI_clamp (by omega)]
      exact ⟨rfl, fun u e => by cases e; exact h3⟩
def w_C (c k j : Nat) : Prop := o_C c k j ∨ scr k j
theorem w_C_E {c e k j : Nat} (o : o_E e k j) : ¬ w_C c k j := by
  unfold o_E k_t k_m at o
  unfold w_C o_C scr
  omega
theorem w_C_C {c c' k j : Nat} (hc : c' < 12) (hne : c' ≠ c) (o : o_C c' k j) : ¬ w_C c k j := by
  unfold o_C at o
  unfold w_C o_C scr
  omega
/-- one caller anew, or one more -/
theorem rf_R.cal {x : Nat} {q : Nat → Nat} {h0 h : jv_H} {M : mA} (hR : rf_R x q h0 M) {k : Nat} {M2 : List mC} (a : FW (w_C k) (fun j => xcr j ∨ j = 21) x q h0 h) (h21 : jv_I h x 21 = nI M2.length) (hl : M2.length ≤ 12) (hsame : ∀ c, c ≠ k → M2[c]? = M.2[c]?) (hnew : ∀ C, M2[k]? = some C → rf_C q h k C ∧ mc_ok M C) : rf_R x q h (M.1, M2) := by
  obtain ⟨hS, ⟨h1, h2⟩, ⟨h3, h4⟩, h5, h6, h7⟩ := hR
  have hx : ∀ j, j = 1 → ¬ (xcr j ∨ j = 21) := by intro j e; subst e; unfold xcr; decide
  refine ⟨a.S hS, ⟨h1, (a.ax 1 (hx 1 rfl)).trans h2⟩, ⟨hl, h21⟩, fun e he => ⟨(a.aq 2 e (w_C_E (Or.inl ⟨Or.inl rfl, rfl⟩))).trans (h5 e he).1, a.E (fun k j o => w_C_E o) (h5 e he).2⟩, fun e he hs => ⟨a.V (fun k j o => w_C_E o) (h6 e he hs).1, (h6 e he hs).2⟩, fun c C hC => ?_⟩
  have hC : M2[c]? = some C := hC
  by_cases hck : c = k
  · subst hck
    exact hnew C hC
  · have hc := jv_ltGet hC
    rw [hsame c hck] at hC
    obtain ⟨g1, g2⟩ := h7 c C hC
    exact ⟨a.C g2.2.2.2.2.1 (fun k j o => w_C_C (by omega) hck o) g1, g2⟩
def mc_add (C : mC) (U : mU) : mC := (C.1, C.2.1, C.2.2.1, C.2.2.2 ++ [U])
def m_us (M : mA) (c kd t n s r : Int32) : Nat × Int32 × mA := match m_ix1 M.2.length c with
  | none => (1, 0, M)
  | some k => match M.2[k]? with
    | none => (1, 0, M)
    | some C => if rr_in kd (nI 0) (nI 5) then if (mc_l C).length = 20 then (3, 0, M) else if (m_mu M C (mc_e C) (kd.toNatClampNeg, t, n, s, r)).1 = 0 then (0, nI (mc_l C).length, M.1, M.2.set k (mc_add C (kd.toNatClampNeg, t, n, s, r))) else (0, -1, M) else (2, 0, M)
set_option maxHeartbeats 4000000 in
set_option maxRecDepth 100000 in
theorem r_caller {lA : Launch} (hlt : lA.stackTraces = false) {D : jv_D} {base : Nat} {x : Nat} {q : Nat → Nat} {h : jv_H} {M : mA} {e p s : Int32} (hR : rf_R x q h M) : jv_Met lA D base yX8_caller (.code yX8_caller cX8_caller 5 (some .int)) 3 0 0 [.ref x, .int e, .int p, .int s] h (pO x q h (m_ca M e p s)) jv_no := by
  refine jv_ofV (lo := [(0, .ref x), (1, .int e), (2, .int p), (3, .int s)]) hlt (by decide) (Nat.le_of_ble_eq_true rfl) rfl (fun E hEl hEd hEz Z G hr ht hnm => ?_)
  subst hEl; subst hEd; subst hEz
  obtain ⟨hS, ⟨hn8, hn⟩, ⟨hm12, hm⟩, hD, hV, hCs⟩ := id hR
  have hS0 := hS
  have hrs : rs x q h h := rs.rf
  have hsc : sc x q h h := sc.rf
  have hop := opF_lt M e
  have hse3 := seF_lt M e
  refine jv_aload_n (q := 1) G 0 dX8_caller_0 rfl rfl rfl ?_
  refine jv_aload_n (q := 2) G 0 dX8_caller_1 rfl rfl rfl ?_
  refine jv_iload_n (q := 3) G 1 dX8_caller_2 rfl rfl rfl ?_
  refine jv_callV_I (q := 6) (h1 := h) (As := [.int e]) (rest := [.ref x]) (ce' := 0) (sl' := 0) (r := nI (m_seF M e)) G Z ml_X8_170 (r_sealedFault hlt hR) hS.1 dX8_caller_3 rfl (by decide) (by decide) (by decide) (by decide) (Nat.le_of_ble_eq_true rfl) rfl rfl rfl rfl ?_
  refine jv_putI (q := 9) G dX8_caller_6 fl_X8_122 rfl hS.1 rfl ?_
  have hr1 : rs x q h (jv_wI h x 0 (nI (m_seF M e))) := rs.rf.wI (nI (m_seF M e)) (Or.inl ⟨rfl, Or.inl rfl⟩)
  have hth : jv_I (jv_wI h x 0 (nI (m_seF M e))) x 0 = (nI (m_seF M e)) := jv_I_self _ _ _ _
  have hR := hr1.R hR
  have hrs := hrs.tr hr1
  generalize jv_wI h x 0 (nI (m_seF M e)) = h1 at hth hR hrs ⊢
  obtain ⟨hS, ⟨hn8, hn⟩, ⟨hm12, hm⟩, hD, hV, hCs⟩ := id hR
  have hsc : sc x q h1 h1 := sc.rf
  refine jv_aload_n (q := 10) G 0 dX8_caller_9 rfl rfl rfl ?_
  refine jv_getI (q := 13) G dX8_caller_10 fl_X8_122 rfl hS.1 hth rfl ?_
  refine jv_if_leN (q := 16) (tgt := 18) G dX8_caller_13 (by decide) rfl (by omega) (fun c2 => ?_) (fun c2 => ?_)
  · obtain ⟨k_e, hke, eke, zke, hse⟩ := seF_0 c2 (by omega)
    have e0 := c2
    subst eke
    rw [e0] at hth
    have hE := (hD k_e (by omega)).2
    have hl10 := hE.2.1
    refine jv_iload_n (q := 19) G 2 dX8_caller_18 rfl rfl rfl ?_
    refine jv_iconst (q := 20) (v := nI 0) G dX8_caller_19 (by decide) rfl ?_
    refine jv_iconst (q := 21) (v := nI 4) G dX8_caller_20 (by decide) rfl ?_
    refine jv_callS_I (q := 24) (h1 := h1) (As := [.int p, .int (nI 0), .int (nI 4)]) (rest := []) (ce' := 0) (sl' := 0) (r := jv_bI (rr_in p (nI 0) (nI 4))) G Z ml_X8_147 (r_isIn hlt) dX8_caller_21 rfl (by decide) (by decide) (by decide) (by decide) (Nat.le_of_ble_eq_true rfl) rfl rfl rfl rfl ?_
    refine jv_if_eqB (q := 27) (tgt := 60) G dX8_caller_24 (by decide) rfl (fun c3 => ?_) (fun c3 => ?_)
    · refine jv_iconst (q := 61) (v := nI 0) G dX8_caller_60 (by decide) rfl ?_
      refine jv_istore (q := 63) (lo' := [(4, .int (nI 0)), (0, .ref x), (1, .int (nI k_e)), (2, .int p), (3, .int s)]) G dX8_caller_61 (by decide) rfl rfl ?_
      refine jv_aload_n (q := 64) G 1 dX8_caller_63 rfl rfl rfl ?_
      refine jv_iload (q := 66) G 0 dX8_caller_64 rfl rfl ?_
      refine jv_if_neN (q := 69) (tgt := 73) G dX8_caller_66 (by decide) rfl (by omega) (fun c4 => ?_) (fun c4 => ?_)
      · omega
      · refine jv_iconst (q := 70) (v := nI 3) G dX8_caller_69 (by decide) rfl ?_
        refine jv_goto (q := 87) G dX8_caller_70 (by decide) ?_
        refine jv_putI (q := 90) G dX8_caller_87 fl_X8_122 rfl hS.1 rfl ?_
        have hr1 : rs x q h1 (jv_wI h1 x 0 (nI 3)) := rs.rf.wI (nI 3) (Or.inl ⟨rfl, Or.inl rfl⟩)
        have hth : jv_I (jv_wI h1 x 0 (nI 3)) x 0 = (nI 3) := jv_I_self _ _ _ _
        have hR := hr1.R hR
        have hrs := hrs.tr hr1
        generalize jv_wI h1 x 0 (nI 3) = h5 at hth hR hrs ⊢
        obtain ⟨hS, ⟨hn8, hn⟩, ⟨hm12, hm⟩, hD, hV, hCs⟩ := id hR
        have hsc : sc x q h5 h5 := sc.rf
        have hE := (hD k_e (by omega)).2
        refine jv_aload_n (q := 91) G 1 dX8_caller_90 rfl rfl rfl ?_
        refine jv_getI (q := 94) G dX8_caller_91 fl_X8_122 rfl hS.1 hth rfl ?_
        refine jv_if_leN (q := 97) (tgt := 99) G dX8_caller_94 (by decide) rfl (by omega) (fun c6 => ?_) (fun c6 => ?_)
        · omega
        · refine jv_iconst (q := 98) (v := nI 0) G dX8_caller_97 (by decide) rfl ?_
          refine jv_iret G hr dX8_caller_98 (Nat.le_of_ble_eq_true rfl) (Nat.le_of_ble_eq_true rfl) ?_
          refine pO.no (M := M) hS0 ?_ rfl hth hR hrs
          unfold m_ca
          rw [m_cl_yes zke hse]
          first
            | (simp only [*, if_true, if_false, Bool.false_eq_true, reduceIte, Bool.and_true, Bool.and_false, Bool.true_and, Bool.false_and, Bool.not_true, Bool.not_false, Bool.true_or, Bool.or_true, Bool.false_or, Option.isNone_some, Option.isNone_none, decide_true, decide_false]; done)
            | (have hG : m_caG (ma_t M k_e) s = false := by
                unfold m_caG
                simp only [*, eq_self, decide_true, decide_false, Bool.true_or, Bool.false_or]
               rw [hG, Bool.and_false]; rfl)
            | (have hG : m_caG (ma_t M k_e) s = true := by
                unfold m_caG
                simp only [*, eq_self, decide_true, decide_false, Bool.true_or, Bool.false_or]
               rw [hG, Bool.and_true, if_pos (by assumption), if_pos (by assumption)])
    · refine jv_iload_n (q := 28) G 3 dX8_caller_27 rfl rfl rfl ?_
      refine jv_iconst (q := 29) (v := (-1)) G dX8_caller_28 (by decide) rfl ?_
      refine jv_icmp_eq (q := 32) (tgt := 56) G dX8_caller_29 (by decide) rfl (fun c7 => ?_) (fun c7 => ?_)
      · subst c7
        refine jv_iconst (q := 57) (v := nI 1) G dX8_caller_56 (by decide) rfl ?_
        refine jv_goto (q := 61) G dX8_caller_57 (by decide) ?_
        refine jv_istore (q := 63) (lo' := [(4, .int (nI 1)), (0, .ref x), (1, .int (nI k_e)), (2, .int p), (3, .int (-1))]) G dX8_caller_61 (by decide) rfl rfl ?_
        refine jv_aload_n (q := 64) G 1 dX8_caller_63 rfl rfl rfl ?_
        refine jv_iload (q := 66) G 0 dX8_caller_64 rfl rfl ?_
        refine jv_if_neN (q := 69) (tgt := 73) G dX8_caller_66 (by decide) rfl (by omega) (fun c8 => ?_) (fun c8 => ?_)
        · refine jv_aload_n (q := 74) G 1 dX8_caller_73 rfl rfl rfl ?_
          refine jv_getI (q := 77) G dX8_caller_74 fl_X8_129 rfl hS.1 hm rfl ?_
          refine jv_bipush (q := 79) (v := nI 12) G dX8_caller_77 (by decide) rfl ?_
          refine jv_icmp_neN (q := 82) (tgt := 86) G dX8_caller_79 (by decide) rfl (by omega) (by omega) (fun c9 => ?_) (fun c9 => ?_)
          · refine jv_iconst (q := 87) (v := nI 0) G dX8_caller_86 (by decide) rfl ?_
            refine jv_putI (q := 90) G dX8_caller_87 fl_X8_122 rfl hS.1 rfl ?_
            have hr1 : rs x q h1 (jv_wI h1 x 0 (nI 0)) := rs.rf.wI (nI 0) (Or.inl ⟨rfl, Or.inl rfl⟩)
            have hth : jv_I (jv_wI h1 x 0 (nI 0)) x 0 = (nI 0) := jv_I_self _ _ _ _
            have hR := hr1.R hR
            have hrs := hrs.tr hr1
            generalize jv_wI h1 x 0 (nI 0) = h10 at hth hR hrs ⊢
            obtain ⟨hS, ⟨hn8, hn⟩, ⟨hm12, hm⟩, hD, hV, hCs⟩ := id hR
            have hsc : sc x q h10 h10 := sc.rf
            have hE := (hD k_e (by omega)).2
            refine jv_aload_n (q := 91) G 1 dX8_caller_90 rfl rfl rfl ?_
            refine jv_getI (q := 94) G dX8_caller_91 fl_X8_122 rfl hS.1 hth rfl ?_
            refine jv_if_leN (q := 97) (tgt := 99) G dX8_caller_94 (by decide) rfl (by omega) (fun c11 => ?_) (fun c11 => ?_)
            · have hF : FW (w_C M.2.length) (fun j => xcr j ∨ j = 21) x q h10 h10 := FW.rf
              have hSn := hS
              refine jv_aload_n (q := 100) G 1 dX8_caller_99 rfl rfl rfl ?_
              refine jv_getQ (q := 103) G dX8_caller_100 fl_X8_68 rfl hS.1 (rf_p22 hS) rfl ?_
              refine jv_aload_n (q := 104) G 1 dX8_caller_103 rfl rfl rfl ?_
              refine jv_getI (q := 107) G dX8_caller_104 fl_X8_129 rfl hS.1 hm rfl ?_
              refine jv_iload_n (q := 108) G 2 dX8_caller_107 rfl rfl rfl ?_
              refine jv_iast (q := 109) G dX8_caller_108 (rf_a22 hS) rfl (by omega) (by decide) rfl ?_
              have hF := hF.wq hS (k := 22) (j := M.2.length) (by decide) rfl (Or.inl (Or.inl ⟨by decide, by decide, rfl⟩)) (nI k_e)
              have hSn2 := hF.S hS
              have hth := (xI_q hSn (k := 22) (h := h10) (by decide) rfl 0 (M.2.length) (nI k_e)).trans hth
              have hm := (xI_q hSn (k := 22) (h := h10) (by decide) rfl 21 (M.2.length) (nI k_e)).trans hm
              have c_22_12 : jv_I (jv_wI h10 (q 22) M.2.length (nI k_e)) (q 22) (M.2.length) = nI k_e := jv_I_self _ _ _ _
              generalize jv_wI h10 (q 22) M.2.length (nI k_e) = h12 at hF hSn2 hth hm c_22_12 ⊢
              clear hSn; have hSn := hSn2; clear hSn2
              refine jv_aload_n (q := 110) G 1 dX8_caller_109 rfl rfl rfl ?_
              refine jv_getQ (q := 113) G dX8_caller_110 fl_X8_71 rfl hSn.1 (rf_p23 hSn) rfl ?_
              refine jv_aload_n (q := 114) G 1 dX8_caller_113 rfl rfl rfl ?_
              refine jv_getI (q := 117) G dX8_caller_114 fl_X8_129 rfl hSn.1 hm rfl ?_
              refine jv_iload_n (q := 118) G 3 dX8_caller_117 rfl rfl rfl ?_
              refine jv_iast (q := 119) G dX8_caller_118 (rf_a23 hSn) rfl (by omega) (by decide) rfl ?_
              have hF := hF.wq hS (k := 23) (j := M.2.length) (by decide) rfl (Or.inl (Or.inl ⟨by decide, by decide, rfl⟩)) (p)
              have hSn2 := hF.S hS
              have c_22_12 := (qI_q hSn (k := 22) (k' := 23) (h := h12) (by decide) rfl (by decide) rfl (M.2.length) (M.2.length) (p)).trans ((if_neg (fun e => absurd e.1 (by decide))).trans c_22_12)
              have hth := (xI_q hSn (k := 23) (h := h12) (by decide) rfl 0 (M.2.length) (p)).trans hth
              have hm := (xI_q hSn (k := 23) (h := h12) (by decide) rfl 21 (M.2.length) (p)).trans hm
              have c_23_13 : jv_I (jv_wI h12 (q 23) M.2.length p) (q 23) (M.2.length) = p := jv_I_self _ _ _ _
              generalize jv_wI h12 (q 23) M.2.length p = h13 at hF hSn2 c_22_12 hth hm c_23_13 ⊢
              clear hSn; have hSn := hSn2; clear hSn2
              refine jv_aload_n (q := 120) G 1 dX8_caller_119 rfl rfl rfl ?_
              refine jv_getQ (q := 123) G dX8_caller_120 fl_X8_74 rfl hSn.1 (rf_p24 hSn) rfl ?_
              refine jv_aload_n (q := 124) G 1 dX8_caller_123 rfl rfl rfl ?_
              refine jv_getI (q := 127) G dX8_caller_124 fl_X8_129 rfl hSn.1 hm rfl ?_
              refine jv_iload_n (q := 128) G 4 dX8_caller_127 rfl rfl rfl ?_
              refine jv_iast (q := 129) G dX8_caller_128 (rf_a24 hSn) rfl (by omega) (by decide) rfl ?_
              have hF := hF.wq hS (k := 24) (j := M.2.length) (by decide) rfl (Or.inl (Or.inl ⟨by decide, by decide, rfl⟩)) (-1)
              have hSn2 := hF.S hS
              have c_22_12 := (qI_q hSn (k := 22) (k' := 24) (h := h13) (by decide) rfl (by decide) rfl (M.2.length) (M.2.length) (-1)).trans ((if_neg (fun e => absurd e.1 (by decide))).trans c_22_12)
              have c_23_13 := (qI_q hSn (k := 23) (k' := 24) (h := h13) (by decide) rfl (by decide) rfl (M.2.length) (M.2.length) (-1)).trans ((if_neg (fun e => absurd e.1 (by decide))).trans c_23_13)
              have hth := (xI_q hSn (k := 24) (h := h13) (by decide) rfl 0 (M.2.length) (-1)).trans hth
              have hm := (xI_q hSn (k := 24) (h := h13) (by decide) rfl 21 (M.2.length) (-1)).trans hm
              have c_24_14 : jv_I (jv_wI h13 (q 24) M.2.length (-1)) (q 24) (M.2.length) = -1 := jv_I_self _ _ _ _
              generalize jv_wI h13 (q 24) M.2.length (-1) = h14 at hF hSn2 c_22_12 c_23_13 hth hm c_24_14 ⊢
              clear hSn; have hSn := hSn2; clear hSn2
              refine jv_aload_n (q := 130) G 1 dX8_caller_129 rfl rfl rfl ?_
              refine jv_getQ (q := 133) G dX8_caller_130 fl_X8_77 rfl hSn.1 (rf_p25 hSn) rfl ?_
              refine jv_aload_n (q := 134) G 1 dX8_caller_133 rfl rfl rfl ?_
              refine jv_getI (q := 137) G dX8_caller_134 fl_X8_129 rfl hSn.1 hm rfl ?_
              refine jv_iconst (q := 138) (v := nI 0) G dX8_caller_137 (by decide) rfl ?_
              refine jv_iast (q := 139) G dX8_caller_138 (rf_a25 hSn) rfl (by omega) (by decide) rfl ?_
              have hF := hF.wq hS (k := 25) (j := M.2.length) (by decide) rfl (Or.inl (Or.inl ⟨by decide, by decide, rfl⟩)) (nI 0)
              have hSn2 := hF.S hS
              have c_22_12 := (qI_q hSn (k := 22) (k' := 25) (h := h14) (by decide) rfl (by decide) rfl (M.2.length) (M.2.length) (nI 0)).trans ((if_neg (fun e => absurd e.1 (by decide))).trans c_22_12)
              have c_23_13 := (qI_q hSn (k := 23) (k' := 25) (h := h14) (by decide) rfl (by decide) rfl (M.2.length) (M.2.length) (nI 0)).trans ((if_neg (fun e => absurd e.1 (by decide))).trans c_23_13)
              have c_24_14 := (qI_q hSn (k := 24) (k' := 25) (h := h14) (by decide) rfl (by decide) rfl (M.2.length) (M.2.length) (nI 0)).trans ((if_neg (fun e => absurd e.1 (by decide))).trans c_24_14)
              have hth := (xI_q hSn (k := 25) (h := h14) (by decide) rfl 0 (M.2.length) (nI 0)).trans hth
              have hm := (xI_q hSn (k := 25) (h := h14) (by decide) rfl 21 (M.2.length) (nI 0)).trans hm
              have c_25_15 : jv_I (jv_wI h14 (q 25) M.2.length (nI 0)) (q 25) (M.2.length) = nI 0 := jv_I_self _ _ _ _
              generalize jv_wI h14 (q 25) M.2.length (nI 0) = h15 at hF hSn2 c_22_12 c_23_13 c_24_14 hth hm c_25_15 ⊢
              clear hSn; have hSn := hSn2; clear hSn2
              refine jv_aload_n (q := 140) G 1 dX8_caller_139 rfl rfl rfl ?_
              refine jv_dup (q := 141) G dX8_caller_140 rfl rfl ?_
              refine jv_getI (q := 144) G dX8_caller_141 fl_X8_129 rfl hSn.1 hm rfl ?_
              refine jv_iconst (q := 145) (v := nI 1) G dX8_caller_144 (by decide) rfl ?_
              refine jv_iaddN (q := 146) G dX8_caller_145 rfl ?_
              refine jv_putI (q := 149) G dX8_caller_146 fl_X8_129 rfl hSn.1 rfl ?_
              have hF := hF.wx hS (j := 21) (Or.inr rfl) (nI (M.2.length + 1))
              have hSn2 := hF.S hS
              have c_22_12 := (qI_x hSn (k := 22) (h := h15) (by decide) rfl (M.2.length) (21) (nI (M.2.length + 1))).trans c_22_12
              have c_23_13 := (qI_x hSn (k := 23) (h := h15) (by decide) rfl (M.2.length) (21) (nI (M.2.length + 1))).trans c_23_13
              have c_24_14 := (qI_x hSn (k := 24) (h := h15) (by decide) rfl (M.2.length) (21) (nI (M.2.length + 1))).trans c_24_14
              have c_25_15 := (qI_x hSn (k := 25) (h := h15) (by decide) rfl (M.2.length) (21) (nI (M.2.length + 1))).trans c_25_15
              have hth := (xI_x (x := x) (h := h15) 0 (21) (nI (M.2.length + 1))).trans ((if_neg (by decide)).trans hth)
              have c_x21_16 : jv_I (jv_wI h15 x 21 (nI (M.2.length + 1))) x 21 = nI (M.2.length + 1) := jv_I_self _ _ _ _
              generalize jv_wI h15 x 21 (nI (M.2.length + 1)) = h16 at hF hSn2 c_22_12 c_23_13 c_24_14 c_25_15 hth c_x21_16 ⊢
              clear hSn; have hSn := hSn2; clear hSn2
              refine jv_aload_n (q := 150) G 1 dX8_caller_149 rfl rfl rfl ?_
              refine jv_getI (q := 153) G dX8_caller_150 fl_X8_129 rfl hSn.1 c_x21_16 rfl ?_
              refine jv_iconst (q := 154) (v := nI 1) G dX8_caller_153 (by decide) rfl ?_
              refine jv_isubN (q := 155) G dX8_caller_154 (by omega) rfl ?_
              refine jv_iret G hr dX8_caller_155 (Nat.le_of_ble_eq_true rfl) (Nat.le_of_ble_eq_true rfl) ?_
              have hG : m_caG (ma_t M k_e) (-1) = true := by
                unfold m_caG
                simp only [*, eq_self, decide_true, decide_false, Bool.true_or, Bool.false_or]
              have h4 := in_N (k := 4) (by decide) (by assumption)
              have h5 := caG_oI (fun t ht => (hE.b16 t ht).1) hG
              refine pO.mk (th := 0) (r := nI M.2.length) (M' := (M.1, M.2 ++ [(k_e, p.toNatClampNeg, m_oI (-1), [])])) ?_ (congrArg (fun z => some (Value.int (nI z))) (by omega)) hth (rf_R.cal hR (k := M.2.length) hF (c_x21_16.trans (by simp)) (by simp; omega) (fun c hc => ?_) (fun C hC => ?_)) ((hrs.FW hS0).fr.tr hF.fr)
              · unfold m_ca
                rw [m_cl_yes zke hse, hG, Bool.and_true, if_pos (by assumption), if_neg (by omega)]
              · rcases Nat.lt_or_ge c M.2.length with h6 | h6
                · rw [List.getElem?_append_left h6]
                · rw [List.getElem?_eq_none (l := M.2) (by omega), List.getElem?_eq_none (by simp; omega)]
              · rw [List.getElem?_append_right (Nat.le_refl _), Nat.sub_self] at hC
                cases hC
                exact ⟨⟨c_22_12, c_23_13.trans h4.2, c_24_14.trans h5.1, c_25_15, fun j u e => by simp [mc_l] at e⟩, hke, hse, Nat.lt_succ_of_le h4.1, h5.2, Nat.zero_le _, fun u hu => by simp [mc_l] at hu⟩
            · omega
          · refine jv_iconst (q := 83) (v := nI 4) G dX8_caller_82 (by decide) rfl ?_
            refine jv_goto (q := 87) G dX8_caller_83 (by decide) ?_
            refine jv_putI (q := 90) G dX8_caller_87 fl_X8_122 rfl hS.1 rfl ?_
            have hr1 : rs x q h1 (jv_wI h1 x 0 (nI 4)) := rs.rf.wI (nI 4) (Or.inl ⟨rfl, Or.inl rfl⟩)
            have hth : jv_I (jv_wI h1 x 0 (nI 4)) x 0 = (nI 4) := jv_I_self _ _ _ _
            have hR := hr1.R hR
            have hrs := hrs.tr hr1
            generalize jv_wI h1 x 0 (nI 4) = h17 at hth hR hrs ⊢
            obtain ⟨hS, ⟨hn8, hn⟩, ⟨hm12, hm⟩, hD, hV, hCs⟩ := id hR
            have hsc : sc x q h17 h17 := sc.rf
            have hE := (hD k_e (by omega)).2
            refine jv_aload_n (q := 91) G 1 dX8_caller_90 rfl rfl rfl ?_
            refine jv_getI (q := 94) G dX8_caller_91 fl_X8_122 rfl hS.1 hth rfl ?_
            refine jv_if_leN (q := 97) (tgt := 99) G dX8_caller_94 (by decide) rfl (by omega) (fun c18 => ?_) (fun c18 => ?_)
            · omega
            · refine jv_iconst (q := 98) (v := nI 0) G dX8_caller_97 (by decide) rfl ?_
              refine jv_iret G hr dX8_caller_98 (Nat.le_of_ble_eq_true rfl) (Nat.le_of_ble_eq_true rfl) ?_
              refine pO.no (M := M) hS0 ?_ rfl hth hR hrs
              unfold m_ca
              rw [m_cl_yes zke hse]
              first
                | (simp only [*, if_true, if_false, Bool.false_eq_true, reduceIte, Bool.and_true, Bool.and_false, Bool.true_and, Bool.false_and, Bool.not_true, Bool.not_false, Bool.true_or, Bool.or_true, Bool.false_or, Option.isNone_some, Option.isNone_none, decide_true, decide_false]; done)
                | (have hG : m_caG (ma_t M k_e) (-1) = false := by
                    unfold m_caG
                    simp only [*, eq_self, decide_true, decide_false, Bool.true_or, Bool.false_or]
                   rw [hG, Bool.and_false]; rfl)
                | (have hG : m_caG (ma_t M k_e) (-1) = true := by
                    unfold m_caG
                    simp only [*, eq_self, decide_true, decide_false, Bool.true_or, Bool.false_or]
                   rw [hG, Bool.and_true, if_pos (by assumption), if_pos (by assumption)])
        · omega
      · refine jv_aload_n (q := 33) G 0 dX8_caller_32 rfl rfl rfl ?_
        refine jv_iload_n (q := 34) G 1 dX8_caller_33 rfl rfl rfl ?_
        refine jv_iload_n (q := 35) G 3 dX8_caller_34 rfl rfl rfl ?_
        refine jv_callV_I (q := 38) (h1 := h1) (As := [.int (nI k_e), .int s]) (rest := []) (ce' := 0) (sl' := 0) (r := jv_oN ((m_at (ma_t M k_e) s).map (fun k => 10 * k_e + k))) G Z ml_X8_151 (r_at hlt (hsc.S hS) (by omega) (hsc.E hS hE)) hS.1 dX8_caller_35 rfl (by decide) (by decide) (by decide) (by decide) (Nat.le_of_ble_eq_true rfl) rfl rfl rfl rfl ?_
        rcases Option.eq_none_or_eq_some (m_at (ma_t M k_e) s) with hk21 | ⟨k19, hk21⟩
        · refine jv_topI (y := (-1)) (by rw [hk21]; rfl) ?_
          refine jv_iconst (q := 39) (v := (-1)) G dX8_caller_38 (by decide) rfl ?_
          refine jv_icmp_eq (q := 42) (tgt := 60) G dX8_caller_39 (by decide) rfl (fun c22 => ?_) (fun c22 => ?_)
          · refine jv_iconst (q := 61) (v := nI 0) G dX8_caller_60 (by decide) rfl ?_
            refine jv_istore (q := 63) (lo' := [(4, .int (nI 0)), (0, .ref x), (1, .int (nI k_e)), (2, .int p), (3, .int s)]) G dX8_caller_61 (by decide) rfl rfl ?_
            refine jv_aload_n (q := 64) G 1 dX8_caller_63 rfl rfl rfl ?_
            refine jv_iload (q := 66) G 0 dX8_caller_64 rfl rfl ?_
            refine jv_if_neN (q := 69) (tgt := 73) G dX8_caller_66 (by decide) rfl (by omega) (fun c23 => ?_) (fun c23 => ?_)
            · omega
            · refine jv_iconst (q := 70) (v := nI 3) G dX8_caller_69 (by decide) rfl ?_
              refine jv_goto (q := 87) G dX8_caller_70 (by decide) ?_
              refine jv_putI (q := 90) G dX8_caller_87 fl_X8_122 rfl hS.1 rfl ?_
              have hr1 : rs x q h1 (jv_wI h1 x 0 (nI 3)) := rs.rf.wI (nI 3) (Or.inl ⟨rfl, Or.inl rfl⟩)
              have hth : jv_I (jv_wI h1 x 0 (nI 3)) x 0 = (nI 3) := jv_I_self _ _ _ _
              have hR := hr1.R hR
              have hrs := hrs.tr hr1
              generalize jv_wI h1 x 0 (nI 3) = h24 at hth hR hrs ⊢
              obtain ⟨hS, ⟨hn8, hn⟩, ⟨hm12, hm⟩, hD, hV, hCs⟩ := id hR
              have hsc : sc x q h24 h24 := sc.rf
              have hE := (hD k_e (by omega)).2
              refine jv_aload_n (q := 91) G 1 dX8_caller_90 rfl rfl rfl ?_
              refine jv_getI (q := 94) G dX8_caller_91 fl_X8_122 rfl hS.1 hth rfl ?_
              refine jv_if_leN (q := 97) (tgt := 99) G dX8_caller_94 (by decide) rfl (by omega) (fun c25 => ?_) (fun c25 => ?_)
              · omega
              · refine jv_iconst (q := 98) (v := nI 0) G dX8_caller_97 (by decide) rfl ?_
                refine jv_iret G hr dX8_caller_98 (Nat.le_of_ble_eq_true rfl) (Nat.le_of_ble_eq_true rfl) ?_
                refine pO.no (M := M) hS0 ?_ rfl hth hR hrs
                unfold m_ca
                rw [m_cl_yes zke hse]
                first
                  | (simp only [*, if_true, if_false, Bool.false_eq_true, reduceIte, Bool.and_true, Bool.and_false, Bool.true_and, Bool.false_and, Bool.not_true, Bool.not_false, Bool.true_or, Bool.or_true, Bool.false_or, Option.isNone_some, Option.isNone_none, decide_true, decide_false]; done)
                  | (have hG : m_caG (ma_t M k_e) s = false := by
                      unfold m_caG
                      simp only [*, eq_self, decide_true, decide_false, Bool.true_or, Bool.false_or]
                     rw [hG, Bool.and_false]; rfl)
                  | (have hG : m_caG (ma_t M k_e) s = true := by
                      unfold m_caG
                      simp only [*, eq_self, decide_true, decide_false, Bool.true_or, Bool.false_or]
                     rw [hG, Bool.and_true, if_pos (by assumption), if_pos (by assumption)])
          · exact absurd rfl c22
        · refine jv_topI (y := nI (10 * k_e + k19)) (by rw [hk21]; rfl) ?_
          obtain ⟨t20, ht20, nt20, lt20⟩ := m_at_some hk21
          have Tt20 := (hE.2.2 k19 t20 ht20).1
          have Ot20 := (hE.2.2 k19 t20 ht20).2
          have Lt20 := hE.2.1
          have Bt20n := Ot20.1; have Bt20k := Ot20.2.1
          refine jv_iconst (q := 39) (v := (-1)) G dX8_caller_38 (by decide) rfl ?_
          refine jv_icmp_eq (q := 42) (tgt := 60) G dX8_caller_39 (by decide) rfl (fun c26 => ?_) (fun c26 => ?_)
          · exact absurd c26 (jv_nI_m1 (by omega))
          · refine jv_aload_n (q := 43) G 0 dX8_caller_42 rfl rfl rfl ?_
            refine jv_getQ (q := 46) G dX8_caller_43 fl_X8_20 rfl hS.1 (rf_p5 hS) rfl ?_
            refine jv_aload_n (q := 47) G 0 dX8_caller_46 rfl rfl rfl ?_
            refine jv_iload_n (q := 48) G 1 dX8_caller_47 rfl rfl rfl ?_
            refine jv_iload_n (q := 49) G 3 dX8_caller_48 rfl rfl rfl ?_
            refine jv_callV_I (q := 52) (h1 := h1) (As := [.int (nI k_e), .int s]) (rest := [.ref (q 5)]) (ce' := 0) (sl' := 0) (r := jv_oN ((m_at (ma_t M k_e) s).map (fun k => 10 * k_e + k))) G Z ml_X8_151 (r_at hlt (hsc.S hS) (by omega) (hsc.E hS hE)) hS.1 dX8_caller_49 rfl (by decide) (by decide) (by decide) (by decide) (Nat.le_of_ble_eq_true rfl) rfl rfl rfl rfl ?_
            have hatk : m_at (ma_t M k_e) s = some k19 := by assumption
            refine jv_topI (y := nI (10 * k_e + k19)) (by rw [hatk]; rfl) ?_
            refine jv_zald (q := 53) G dX8_caller_52 (rf_a5 hS) rfl (by omega) (by decide) (rt_5 (hsc.T hS Tt20)) rfl ?_
            refine jv_if_neB (q := 56) (tgt := 60) G dX8_caller_53 (by decide) rfl (fun c27 => ?_) (fun c27 => ?_)
            · refine jv_iconst (q := 61) (v := nI 0) G dX8_caller_60 (by decide) rfl ?_
              refine jv_istore (q := 63) (lo' := [(4, .int (nI 0)), (0, .ref x), (1, .int (nI k_e)), (2, .int p), (3, .int s)]) G dX8_caller_61 (by decide) rfl rfl ?_
              refine jv_aload_n (q := 64) G 1 dX8_caller_63 rfl rfl rfl ?_
              refine jv_iload (q := 66) G 0 dX8_caller_64 rfl rfl ?_
              refine jv_if_neN (q := 69) (tgt := 73) G dX8_caller_66 (by decide) rfl (by omega) (fun c28 => ?_) (fun c28 => ?_)
              · omega
              · refine jv_iconst (q := 70) (v := nI 3) G dX8_caller_69 (by decide) rfl ?_
                refine jv_goto (q := 87) G dX8_caller_70 (by decide) ?_
                refine jv_putI (q := 90) G dX8_caller_87 fl_X8_122 rfl hS.1 rfl ?_
                have hr1 : rs x q h1 (jv_wI h1 x 0 (nI 3)) := rs.rf.wI (nI 3) (Or.inl ⟨rfl, Or.inl rfl⟩)
                have hth : jv_I (jv_wI h1 x 0 (nI 3)) x 0 = (nI 3) := jv_I_self _ _ _ _
                have hR := hr1.R hR
                have hrs := hrs.tr hr1
                generalize jv_wI h1 x 0 (nI 3) = h29 at hth hR hrs ⊢
                obtain ⟨hS, ⟨hn8, hn⟩, ⟨hm12, hm⟩, hD, hV, hCs⟩ := id hR
                have hsc : sc x q h29 h29 := sc.rf
                have hE := (hD k_e (by omega)).2
                have Tt20 := (hE.2.2 k19 t20 ht20).1
                refine jv_aload_n (q := 91) G 1 dX8_caller_90 rfl rfl rfl ?_
                refine jv_getI (q := 94) G dX8_caller_91 fl_X8_122 rfl hS.1 hth rfl ?_
                refine jv_if_leN (q := 97) (tgt := 99) G dX8_caller_94 (by decide) rfl (by omega) (fun c30 => ?_) (fun c30 => ?_)
                · omega
                · refine jv_iconst (q := 98) (v := nI 0) G dX8_caller_97 (by decide) rfl ?_
                  refine jv_iret G hr dX8_caller_98 (Nat.le_of_ble_eq_true rfl) (Nat.le_of_ble_eq_true rfl) ?_
                  refine pO.no (M := M) hS0 ?_ rfl hth hR hrs
                  unfold m_ca
                  rw [m_cl_yes zke hse]
                  first
                    | (simp only [*, if_true, if_false, Bool.false_eq_true, reduceIte, Bool.and_true, Bool.and_false, Bool.true_and, Bool.false_and, Bool.not_true, Bool.not_false, Bool.true_or, Bool.or_true, Bool.false_or, Option.isNone_some, Option.isNone_none, decide_true, decide_false]; done)
                    | (have hG : m_caG (ma_t M k_e) s = false := by
                        unfold m_caG
                        simp only [*, eq_self, decide_true, decide_false, Bool.true_or, Bool.false_or]
                        first | done | simpa using c27
                       rw [hG, Bool.and_false]; rfl)
                    | (have hG : m_caG (ma_t M k_e) s = true := by
                        unfold m_caG
                        simp only [*, eq_self, decide_true, decide_false, Bool.true_or, Bool.false_or]
                        first | done | simpa using c27
                       rw [hG, Bool.and_true, if_pos (by assumption), if_pos (by assumption)])
            · refine jv_iconst (q := 57) (v := nI 1) G dX8_caller_56 (by decide) rfl ?_
              refine jv_goto (q := 61) G dX8_caller_57 (by decide) ?_
              refine jv_istore (q := 63) (lo' := [(4, .int (nI 1)), (0, .ref x), (1, .int (nI k_e)), (2, .int p), (3, .int s)]) G dX8_caller_61 (by decide) rfl rfl ?_
              refine jv_aload_n (q := 64) G 1 dX8_caller_63 rfl rfl rfl ?_
              refine jv_iload (q := 66) G 0 dX8_caller_64 rfl rfl ?_
              refine jv_if_neN (q := 69) (tgt := 73) G dX8_caller_66 (by decide) rfl (by omega) (fun c31 => ?_) (fun c31 => ?_)
              · refine jv_aload_n (q := 74) G 1 dX8_caller_73 rfl rfl rfl ?_
                refine jv_getI (q := 77) G dX8_caller_74 fl_X8_129 rfl hS.1 hm rfl ?_
                refine jv_bipush (q := 79) (v := nI 12) G dX8_caller_77 (by decide) rfl ?_
                refine jv_icmp_neN (q := 82) (tgt := 86) G dX8_caller_79 (by decide) rfl (by omega) (by omega) (fun c32 => ?_) (fun c32 => ?_)
                · refine jv_iconst (q := 87) (v := nI 0) G dX8_caller_86 (by decide) rfl ?_
                  refine jv_putI (q := 90) G dX8_caller_87 fl_X8_122 rfl hS.1 rfl ?_
                  have hr1 : rs x q h1 (jv_wI h1 x 0 (nI 0)) := rs.rf.wI (nI 0) (Or.inl ⟨rfl, Or.inl rfl⟩)
                  have hth : jv_I (jv_wI h1 x 0 (nI 0)) x 0 = (nI 0) := jv_I_self _ _ _ _
                  have hR := hr1.R hR
                  have hrs := hrs.tr hr1
                  generalize jv_wI h1 x 0 (nI 0) = h33 at hth hR hrs ⊢
                  obtain ⟨hS, ⟨hn8, hn⟩, ⟨hm12, hm⟩, hD, hV, hCs⟩ := id hR
                  have hsc : sc x q h33 h33 := sc.rf
                  have hE := (hD k_e (by omega)).2
                  have Tt20 := (hE.2.2 k19 t20 ht20).1
                  refine jv_aload_n (q := 91) G 1 dX8_caller_90 rfl rfl rfl ?_
                  refine jv_getI (q := 94) G dX8_caller_91 fl_X8_122 rfl hS.1 hth rfl ?_
                  refine jv_if_leN (q := 97) (tgt := 99) G dX8_caller_94 (by decide) rfl (by omega) (fun c34 => ?_) (fun c34 => ?_)
                  · have hF : FW (w_C M.2.length) (fun j => xcr j ∨ j = 21) x q h33 h33 := FW.rf
                    have hSn := hS
                    refine jv_aload_n (q := 100) G 1 dX8_caller_99 rfl rfl rfl ?_
                    refine jv_getQ (q := 103) G dX8_caller_100 fl_X8_68 rfl hS.1 (rf_p22 hS) rfl ?_
                    refine jv_aload_n (q := 104) G 1 dX8_caller_103 rfl rfl rfl ?_
                    refine jv_getI (q := 107) G dX8_caller_104 fl_X8_129 rfl hS.1 hm rfl ?_
                    refine jv_iload_n (q := 108) G 2 dX8_caller_107 rfl rfl rfl ?_
                    refine jv_iast (q := 109) G dX8_caller_108 (rf_a22 hS) rfl (by omega) (by decide) rfl ?_
                    have hF := hF.wq hS (k := 22) (j := M.2.length) (by decide) rfl (Or.inl (Or.inl ⟨by decide, by decide, rfl⟩)) (nI k_e)
                    have hSn2 := hF.S hS
                    have hth := (xI_q hSn (k := 22) (h := h33) (by decide) rfl 0 (M.2.length) (nI k_e)).trans hth
                    have hm := (xI_q hSn (k := 22) (h := h33) (by decide) rfl 21 (M.2.length) (nI k_e)).trans hm
                    have c_22_35 : jv_I (jv_wI h33 (q 22) M.2.length (nI k_e)) (q 22) (M.2.length) = nI k_e := jv_I_self _ _ _ _
                    generalize jv_wI h33 (q 22) M.2.length (nI k_e) = h35 at hF hSn2 hth hm c_22_35 ⊢
                    clear hSn; have hSn := hSn2; clear hSn2
                    refine jv_aload_n (q := 110) G 1 dX8_caller_109 rfl rfl rfl ?_
                    refine jv_getQ (q := 113) G dX8_caller_110 fl_X8_71 rfl hSn.1 (rf_p23 hSn) rfl ?_
                    refine jv_aload_n (q := 114) G 1 dX8_caller_113 rfl rfl rfl ?_
                    refine jv_getI (q := 117) G dX8_caller_114 fl_X8_129 rfl hSn.1 hm rfl ?_
                    refine jv_iload_n (q := 118) G 3 dX8_caller_117 rfl rfl rfl ?_
                    refine jv_iast (q := 119) G dX8_caller_118 (rf_a23 hSn) rfl (by omega) (by decide) rfl ?_
                    have hF := hF.wq hS (k := 23) (j := M.2.length) (by decide) rfl (Or.inl (Or.inl ⟨by decide, by decide, rfl⟩)) (p)
                    have hSn2 := hF.S hS
                    have c_22_35 := (qI_q hSn (k := 22) (k' := 23) (h := h35) (by decide) rfl (by decide) rfl (M.2.length) (M.2.length) (p)).trans ((if_neg (fun e => absurd e.1 (by decide))).trans c_22_35)
                    have hth := (xI_q hSn (k := 23) (h := h35) (by decide) rfl 0 (M.2.length) (p)).trans hth
                    have hm := (xI_q hSn (k := 23) (h := h35) (by decide) rfl 21 (M.2.length) (p)).trans hm
                    have c_23_36 : jv_I (jv_wI h35 (q 23) M.2.length p) (q 23) (M.2.length) = p := jv_I_self _ _ _ _
                    generalize jv_wI h35 (q 23) M.2.length p = h36 at hF hSn2 c_22_35 hth hm c_23_36 ⊢
                    clear hSn; have hSn := hSn2; clear hSn2
                    refine jv_aload_n (q := 120) G 1 dX8_caller_119 rfl rfl rfl ?_
                    refine jv_getQ (q := 123) G dX8_caller_120 fl_X8_74 rfl hSn.1 (rf_p24 hSn) rfl ?_
                    refine jv_aload_n (q := 124) G 1 dX8_caller_123 rfl rfl rfl ?_
                    refine jv_getI (q := 127) G dX8_caller_124 fl_X8_129 rfl hSn.1 hm rfl ?_
                    refine jv_iload_n (q := 128) G 4 dX8_caller_127 rfl rfl rfl ?_
                    refine jv_iast (q := 129) G dX8_caller_128 (rf_a24 hSn) rfl (by omega) (by decide) rfl ?_
                    have hF := hF.wq hS (k := 24) (j := M.2.length) (by decide) rfl (Or.inl (Or.inl ⟨by decide, by decide, rfl⟩)) (s)
                    have hSn2 := hF.S hS
                    have c_22_35 := (qI_q hSn (k := 22) (k' := 24) (h := h36) (by decide) rfl (by decide) rfl (M.2.length) (M.2.length) (s)).trans ((if_neg (fun e => absurd e.1 (by decide))).trans c_22_35)
                    have c_23_36 := (qI_q hSn (k := 23) (k' := 24) (h := h36) (by decide) rfl (by decide) rfl (M.2.length) (M.2.length) (s)).trans ((if_neg (fun e => absurd e.1 (by decide))).trans c_23_36)
                    have hth := (xI_q hSn (k := 24) (h := h36) (by decide) rfl 0 (M.2.length) (s)).trans hth
                    have hm := (xI_q hSn (k := 24) (h := h36) (by decide) rfl 21 (M.2.length) (s)).trans hm
                    have c_24_37 : jv_I (jv_wI h36 (q 24) M.2.length s) (q 24) (M.2.length) = s := jv_I_self _ _ _ _
                    generalize jv_wI h36 (q 24) M.2.length s = h37 at hF hSn2 c_22_35 c_23_36 hth hm c_24_37 ⊢
                    clear hSn; have hSn := hSn2; clear hSn2
                    refine jv_aload_n (q := 130) G 1 dX8_caller_129 rfl rfl rfl ?_
                    refine jv_getQ (q := 133) G dX8_caller_130 fl_X8_77 rfl hSn.1 (rf_p25 hSn) rfl ?_
                    refine jv_aload_n (q := 134) G 1 dX8_caller_133 rfl rfl rfl ?_
                    refine jv_getI (q := 137) G dX8_caller_134 fl_X8_129 rfl hSn.1 hm rfl ?_
                    refine jv_iconst (q := 138) (v := nI 0) G dX8_caller_137 (by decide) rfl ?_
                    refine jv_iast (q := 139) G dX8_caller_138 (rf_a25 hSn) rfl (by omega) (by decide) rfl ?_
                    have hF := hF.wq hS (k := 25) (j := M.2.length) (by decide) rfl (Or.inl (Or.inl ⟨by decide, by decide, rfl⟩)) (nI 0)
                    have hSn2 := hF.S hS
                    have c_22_35 := (qI_q hSn (k := 22) (k' := 25) (h := h37) (by decide) rfl (by decide) rfl (M.2.length) (M.2.length) (nI 0)).trans ((if_neg (fun e => absurd e.1 (by decide))).trans c_22_35)
                    have c_23_36 := (qI_q hSn (k := 23) (k' := 25) (h := h37) (by decide) rfl (by decide) rfl (M.2.length) (M.2.length) (nI 0)).trans ((if_neg (fun e => absurd e.1 (by decide))).trans c_23_36)
                    have c_24_37 := (qI_q hSn (k := 24) (k' := 25) (h := h37) (by decide) rfl (by decide) rfl (M.2.length) (M.2.length) (nI 0)).trans ((if_neg (fun e => absurd e.1 (by decide))).trans c_24_37)
                    have hth := (xI_q hSn (k := 25) (h := h37) (by decide) rfl 0 (M.2.length) (nI 0)).trans hth
                    have hm := (xI_q hSn (k := 25) (h := h37) (by decide) rfl 21 (M.2.length) (nI 0)).trans hm
                    have c_25_38 : jv_I (jv_wI h37 (q 25) M.2.length (nI 0)) (q 25) (M.2.length) = nI 0 := jv_I_self _ _ _ _
                    generalize jv_wI h37 (q 25) M.2.length (nI 0) = h38 at hF hSn2 c_22_35 c_23_36 c_24_37 hth hm c_25_38 ⊢
                    clear hSn; have hSn := hSn2; clear hSn2
                    refine jv_aload_n (q := 140) G 1 dX8_caller_139 rfl rfl rfl ?_
                    refine jv_dup (q := 141) G dX8_caller_140 rfl rfl ?_
                    refine jv_getI (q := 144) G dX8_caller_141 fl_X8_129 rfl hSn.1 hm rfl ?_
                    refine jv_iconst (q := 145) (v := nI 1) G dX8_caller_144 (by decide) rfl ?_
                    refine jv_iaddN (q := 146) G dX8_caller_145 rfl ?_
                    refine jv_putI (q := 149) G dX8_caller_146 fl_X8_129 rfl hSn.1 rfl ?_
                    have hF := hF.wx hS (j := 21) (Or.inr rfl) (nI (M.2.length + 1))
                    have hSn2 := hF.S hS
                    have c_22_35 := (qI_x hSn (k := 22) (h := h38) (by decide) rfl (M.2.length) (21) (nI (M.2.length + 1))).trans c_22_35
                    have c_23_36 := (qI_x hSn (k := 23) (h := h38) (by decide) rfl (M.2.length) (21) (nI (M.2.length + 1))).trans c_23_36
                    have c_24_37 := (qI_x hSn (k := 24) (h := h38) (by decide) rfl (M.2.length) (21) (nI (M.2.length + 1))).trans c_24_37
                    have c_25_38 := (qI_x hSn (k := 25) (h := h38) (by decide) rfl (M.2.length) (21) (nI (M.2.length + 1))).trans c_25_38
                    have hth := (xI_x (x := x) (h := h38) 0 (21) (nI (M.2.length + 1))).trans ((if_neg (by decide)).trans hth)
                    have c_x21_39 : jv_I (jv_wI h38 x 21 (nI (M.2.length + 1))) x 21 = nI (M.2.length + 1) := jv_I_self _ _ _ _
                    generalize jv_wI h38 x 21 (nI (M.2.length + 1)) = h39 at hF hSn2 c_22_35 c_23_36 c_24_37 c_25_38 hth c_x21_39 ⊢
                    clear hSn; have hSn := hSn2; clear hSn2
                    refine jv_aload_n (q := 150) G 1 dX8_caller_149 rfl rfl rfl ?_
                    refine jv_getI (q := 153) G dX8_caller_150 fl_X8_129 rfl hSn.1 c_x21_39 rfl ?_
                    refine jv_iconst (q := 154) (v := nI 1) G dX8_caller_153 (by decide) rfl ?_
                    refine jv_isubN (q := 155) G dX8_caller_154 (by omega) rfl ?_
                    refine jv_iret G hr dX8_caller_155 (Nat.le_of_ble_eq_true rfl) (Nat.le_of_ble_eq_true rfl) ?_
                    have hG : m_caG (ma_t M k_e) s = true := by
                      unfold m_caG
                      simp only [*, eq_self, decide_true, decide_false, Bool.true_or, Bool.false_or]
                      first | done | simpa using c27
                    have h4 := in_N (k := 4) (by decide) (by assumption)
                    have h5 := caG_oI (fun t ht => (hE.b16 t ht).1) hG
                    refine pO.mk (th := 0) (r := nI M.2.length) (M' := (M.1, M.2 ++ [(k_e, p.toNatClampNeg, m_oI s, [])])) ?_ (congrArg (fun z => some (Value.int (nI z))) (by omega)) hth (rf_R.cal hR (k := M.2.length) hF (c_x21_39.trans (by simp)) (by simp; omega) (fun c hc => ?_) (fun C hC => ?_)) ((hrs.FW hS0).fr.tr hF.fr)
                    · unfold m_ca
                      rw [m_cl_yes zke hse, hG, Bool.and_true, if_pos (by assumption), if_neg (by omega)]
                    · rcases Nat.lt_or_ge c M.2.length with h6 | h6
                      · rw [List.getElem?_append_left h6]
                      · rw [List.getElem?_eq_none (l := M.2) (by omega), List.getElem?_eq_none (by simp; omega)]
                    · rw [List.getElem?_append_right (Nat.le_refl _), Nat.sub_self] at hC
                      cases hC
                      exact ⟨⟨c_22_35, c_23_36.trans h4.2, c_24_37.trans h5.1, c_25_38, fun j u e => by simp [mc_l] at e⟩, hke, hse, Nat.lt_succ_of_le h4.1, h5.2, Nat.zero_le _, fun u hu => by simp [mc_l] at hu⟩
                  · omega
                · refine jv_iconst (q := 83) (v := nI 4) G dX8_caller_82 (by decide) rfl ?_
                  refine jv_goto (q := 87) G dX8_caller_83 (by decide) ?_
                  refine jv_putI (q := 90) G dX8_caller_87 fl_X8_122 rfl hS.1 rfl ?_
                  have hr1 : rs x q h1 (jv_wI h1 x 0 (nI 4)) := rs.rf.wI (nI 4) (Or.inl ⟨rfl, Or.inl rfl⟩)
                  have hth : jv_I (jv_wI h1 x 0 (nI 4)) x 0 = (nI 4) := jv_I_self _ _ _ _
                  have hR := hr1.R hR
                  have hrs := hrs.tr hr1
                  generalize jv_wI h1 x 0 (nI 4) = h40 at hth hR hrs ⊢
                  obtain ⟨hS, ⟨hn8, hn⟩, ⟨hm12, hm⟩, hD, hV, hCs⟩ := id hR
                  have hsc : sc x q h40 h40 := sc.rf
                  have hE := (hD k_e (by omega)).2
                  have Tt20 := (hE.2.2 k19 t20 ht20).1
                  refine jv_aload_n (q := 91) G 1 dX8_caller_90 rfl rfl rfl ?_
                  refine jv_getI (q := 94) G dX8_caller_91 fl_X8_122 rfl hS.1 hth rfl ?_
                  refine jv_if_leN (q := 97) (tgt := 99) G dX8_caller_94 (by decide) rfl (by omega) (fun c41 => ?_) (fun c41 => ?_)
                  · omega
                  · refine jv_iconst (q := 98) (v := nI 0) G dX8_caller_97 (by decide) rfl ?_
                    refine jv_iret G hr dX8_caller_98 (Nat.le_of_ble_eq_true rfl) (Nat.le_of_ble_eq_true rfl) ?_
                    refine pO.no (M := M) hS0 ?_ rfl hth hR hrs
                    unfold m_ca
                    rw [m_cl_yes zke hse]
                    first
                      | (simp only [*, if_true, if_false, Bool.false_eq_true, reduceIte, Bool.and_true, Bool.and_false, Bool.true_and, Bool.false_and, Bool.not_true, Bool.not_false, Bool.true_or, Bool.or_true, Bool.false_or, Option.isNone_some, Option.isNone_none, decide_true, decide_false]; done)
                      | (have hG : m_caG (ma_t M k_e) s = false := by
                          unfold m_caG
                          simp only [*, eq_self, decide_true, decide_false, Bool.true_or, Bool.false_or]
                          first | done | simpa using c27
                         rw [hG, Bool.and_false]; rfl)
                      | (have hG : m_caG (ma_t M k_e) s = true := by
                          unfold m_caG
                          simp only [*, eq_self, decide_true, decide_false, Bool.true_or, Bool.false_or]
                          first | done | simpa using c27
                         rw [hG, Bool.and_true, if_pos (by assumption), if_pos (by assumption)])
              · omega
  · refine jv_iconst (q := 17) (v := nI 0) G dX8_caller_16 (by decide) rfl ?_
    refine jv_iret G hr dX8_caller_17 (Nat.le_of_ble_eq_true rfl) (Nat.le_of_ble_eq_true rfl) ?_
    refine pO.no (M := M) hS0 ?_ rfl hth hR hrs
    exact m_cl_no c2
