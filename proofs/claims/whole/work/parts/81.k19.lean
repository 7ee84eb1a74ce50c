def m_Us (ts : List mT) (k : Nat) : List Nat := ((ts[k]?).map (c_cl ts 11 [])).getD []
def uFs (z : Nat → Nat → Nat) (T : Nat → Nat) (e : Nat) (h h' : jv_H) : Prop := jv_sh h' = jv_sh h ∧ (∀ b j, jv_P h' b j = jv_P h b j) ∧ (∀ b j, jv_L h' b j = jv_L h b j) ∧ ∀ b j, (∀ k, k < 10 → ¬ (b = T (10 * e + k) ∧ (j = 13 ∨ j = 14)) ∧ b ≠ z 10 (T (10 * e + k))) → jv_I h' b j = jv_I h b j
theorem uFs.rf {z : Nat → Nat → Nat} {T : Nat → Nat} {e : Nat} {h : jv_H} : uFs z T e h h := ⟨rfl, fun _ _ => rfl, fun _ _ => rfl, fun _ _ _ => rfl⟩
theorem uFs.st {z : Nat → Nat → Nat} {T : Nat → Nat} {e k : Nat} {h h1 h2 : jv_H} (f : uFs z T e h h1) (hk : k < 10) (g : uF z (T (10 * e + k)) h1 h2) : uFs z T e h h2 := ⟨g.1.trans f.1, fun b j => (g.2.1 b j).trans (f.2.1 b j), fun b j => (g.2.2.1 b j).trans (f.2.2.1 b j), fun b j n => (g.2.2.2 b j (n k hk).1 (n k hk).2).trans (f.2.2.2 b j n)⟩
theorem uF.U {z : Nat → Nat → Nat} {a b : Nat} {U : List Nat} {h h1 : jv_H} (f : uF z a h h1) (n1 : b ≠ a) (n2 : b ≠ z 10 a) (n3 : z 10 b ≠ a) (n4 : z 10 b ≠ z 10 a) (r : cv_U z h b U) : cv_U z h1 b U := ⟨(f.2.2.2 b 13 (fun q => n1 q.1) n2).trans r.1, (f.2.2.2 b 14 (fun q => n1 q.1) n2).trans r.2.1, fun j v e => (f.2.2.2 _ j (fun q => n3 q.1) n4).trans (r.2.2 j v e)⟩
set_option maxHeartbeats 4000000 in
set_option maxRecDepth 100000 in
theorem k_fai1 {E : jv_E} {Q : State → Prop} {z : Nat → Nat → Nat} {T : Nat → Nat} {N : Nat → Nat → Nat} {tO : Nat → Nat} {h : jv_H} {e : Nat} {ts : List mT} (hE : cv_E z T N h e ts) (oe : el_o z T N tO e) (hlt : (jv_l E).stackTraces = false) (G : jv_C E cX2_firstAboveItself RX2 2) (Z : jv_rm E = jv_room 26 0 0) (hk : ∀ h2, uFs z T e h h2 → cv_E z T N h2 e ts → (∀ k, k < ts.length → cv_U z h2 (T (10 * e + k)) (m_Us ts k) ∧ (m_Us ts k).length ≤ 10 ∧ ∀ v ∈ m_Us ts k, v < 16) → jv_V E 2 h2 0 0 Q 42 [(0, .ref (z 0 e))] []) : ∀ (n i : Nat) (h1 : jv_H), i + n = ts.length → uFs z T e h h1 → cv_E z T N h1 e ts → (∀ k, k < i → cv_U z h1 (T (10 * e + k)) (m_Us ts k) ∧ (m_Us ts k).length ≤ 10 ∧ ∀ v ∈ m_Us ts k, v < 16) → jv_V E 2 h1 0 0 Q 2 [(1, .int (nI i)), (0, .ref (z 0 e))] [] := by
  intro n
  induction n with
  | zero =>
    intro i h1 hn hF hE1 hU
    have hl10 := hE1.2.2.2.1
    refine jv_iload_n (q := 3) G 0 dX2_firstAboveItself_2 rfl rfl rfl ?_
    refine jv_aload_n (q := 4) G 1 dX2_firstAboveItself_3 rfl rfl rfl ?_
    refine jv_getI (q := 7) G dX2_firstAboveItself_4 fl_X2_33 rfl hE1.1.1 hE1.2.2.1 rfl ?_
    refine jv_icmp_geN (q := 10) (tgt := 42) G dX2_firstAboveItself_7 (by decide) rfl (by omega) (by omega) (fun c1 => ?_) (fun c1 => ?_)
    · refine jv_lo [1] (lo' := [(0, .ref (z 0 e))]) rfl ?_
      rw [show i = ts.length by omega] at hU
      exact hk _ hF hE1 hU
    · omega
  | succ n ih =>
    intro i h1 hn hF hE1 hU
    have hl10 := hE1.2.2.2.1
    obtain ⟨t, ht⟩ := jv_getLt (l := ts) (k := i) (by omega)
    have lt := jv_ltGet ht
    have k10t : i < 10 := by have := hE1.2.2.2.1; omega
    have Ot := (hE1.2.2.2.2.1 i t ht).2
    have Vt := (hE1.2.2.2.2.1 i t ht).1
    have Yt := hE1.2.1 i k10t
    have btn := Ot.1; have btk := Ot.2.1
    refine jv_iload_n (q := 3) G 0 dX2_firstAboveItself_2 rfl rfl rfl ?_
    refine jv_aload_n (q := 4) G 1 dX2_firstAboveItself_3 rfl rfl rfl ?_
    refine jv_getI (q := 7) G dX2_firstAboveItself_4 fl_X2_33 rfl hE1.1.1 hE1.2.2.1 rfl ?_
    refine jv_icmp_geN (q := 10) (tgt := 42) G dX2_firstAboveItself_7 (by decide) rfl (by omega) (by omega) (fun c1 => ?_) (fun c1 => ?_)
    · omega
    · refine jv_aload_n (q := 11) G 1 dX2_firstAboveItself_10 rfl rfl rfl ?_
      refine jv_getQ (q := 14) G dX2_firstAboveItself_11 fl_X2_11 rfl hE1.1.1 hE1.1.2.1 rfl ?_
      refine jv_iload_n (q := 15) G 0 dX2_firstAboveItself_14 rfl rfl rfl ?_
      refine jv_aaldQ (q := 16) G dX2_firstAboveItself_15 hE1.1.2.2.1 rfl (by omega) (by decide) (hE1.1.2.2.2.2.2.2 i k10t) rfl ?_
      refine jv_callV (q := 19) (As := []) (rest := []) G Z ml_X2_70 (k_forget hlt Yt.1) (hE1.2.1 i k10t).1 dX2_firstAboveItself_16 rfl (by decide) (by decide) (by decide) (by decide) (Nat.le_of_ble_eq_true rfl) rfl rfl (fun v3 h2 y4 => ?_) (fun _ _ hx => hx.elim)
      obtain ⟨rfl, hFf, h13, h14, hIf, hLf⟩ := y4
      show jv_V E 2 h2 0 0 Q 19 [(1, .int (nI i)), (0, .ref (z 0 e))] []
      have hFu : uF z (T (10 * e + i)) h1 h2 := ⟨hFf.1, hFf.2.1, fun b j => (by
          by_cases q : b = (T (10 * e + i))
          · rw [q]; exact hLf j
          · exact hFf.l q j), fun b j n1 n2 => (by
          by_cases q : b = (T (10 * e + i))
          · rw [q]; exact hIf j (fun s => n1 ⟨q, Or.inl s⟩) (fun s => n1 ⟨q, Or.inr s⟩)
          · exact hFf.i q j)⟩
      have hE2 := hFu.E Yt.1 Yt.2.2.2.2.2.2.1 hE1
      have hP2 : uP z T N h2 e ts (T (10 * e + i)) [] := ⟨hE2, ⟨h13, h14, fun j v q => by simp at q⟩, Nat.zero_le _, fun v q => by simp at q⟩
      clear lt k10t Ot Vt Yt btn btk
      have lt := jv_ltGet ht
      have k10t : i < 10 := by have := hE2.2.2.2.1; omega
      have Ot := (hE2.2.2.2.2.1 i t ht).2
      have Vt := (hE2.2.2.2.2.1 i t ht).1
      have Yt := hE2.2.1 i k10t
      have btn := Ot.1; have btk := Ot.2.1
      refine jv_aload_n (q := 20) G 1 dX2_firstAboveItself_19 rfl rfl rfl ?_
      refine jv_aload_n (q := 21) G 1 dX2_firstAboveItself_20 rfl rfl rfl ?_
      refine jv_getQ (q := 24) G dX2_firstAboveItself_21 fl_X2_11 rfl hE2.1.1 hE2.1.2.1 rfl ?_
      refine jv_iload_n (q := 25) G 0 dX2_firstAboveItself_24 rfl rfl rfl ?_
      refine jv_aaldQ (q := 26) G dX2_firstAboveItself_25 hE2.1.2.2.1 rfl (by omega) (by decide) (hE2.1.2.2.2.2.2.2 i k10t) rfl ?_
      refine jv_aload_n (q := 27) G 1 dX2_firstAboveItself_26 rfl rfl rfl ?_
      refine jv_getQ (q := 30) G dX2_firstAboveItself_27 fl_X2_11 rfl hE2.1.1 hE2.1.2.1 rfl ?_
      refine jv_iload_n (q := 31) G 0 dX2_firstAboveItself_30 rfl rfl rfl ?_
      refine jv_aaldQ (q := 32) G dX2_firstAboveItself_31 hE2.1.2.2.1 rfl (by omega) (by decide) (hE2.1.2.2.2.2.2.2 i k10t) rfl ?_
      refine jv_iconst (q := 33) (v := nI 0) G dX2_firstAboveItself_32 (by decide) rfl ?_
      refine jv_callS (q := 36) (As := [.ref (z 0 e), .ref (T (10 * e + i)), .ref (T (10 * e + i)), .int (nI 0)]) (rest := []) G Z ml_X2_73 (k_climb (d := 11) hlt lt (by omega) (k_climbTo hlt lt 11 (by omega)) ht hP2) dX2_firstAboveItself_33 rfl (by decide) (by decide) (by decide) (by decide) (Nat.le_of_ble_eq_true rfl) rfl rfl (fun v6 h5 y7 => ?_) (fun _ _ hx => hx.elim)
      obtain ⟨rfl, hFc, hPc⟩ := y7
      show jv_V E 2 h5 0 0 Q 36 [(1, .int (nI i)), (0, .ref (z 0 e))] []
      refine jv_iinc (q := 39) (lo' := [(1, .int (nI (i + 1))), (0, .ref (z 0 e))]) (v := nI (i + 1)) G 0 dX2_firstAboveItself_36 rfl (nI_1 i) (by decide) rfl rfl ?_
      refine jv_goto (q := 2) G dX2_firstAboveItself_39 (by decide) ?_
      refine jv_lo [0, 1] (lo' := [(1, .int (nI (i + 1))), (0, .ref (z 0 e))]) rfl ?_
      have hFF := hFu.tr hFc
      have eUs : m_Us ts i = c_cl ts 11 [] t := by unfold m_Us; rw [ht]; rfl
      refine ih (i + 1) _ (by omega) (hF.st k10t hFF) hPc.1 (fun k hk2 => ?_)
      by_cases q : k = i
      · subst q
        rw [eUs]; exact hPc.2
      · have hk10 : k < 10 := by omega
        have ok := oe.2.2.2.1 k hk10
        have oi := oe.2.2.2.1 i k10t
        have nT : T (10 * e + k) ≠ (T (10 * e + i)) := fun s => q (oe.2.2.2.2 k i hk10 k10t s)
        obtain ⟨u1, u2⟩ := hU k (by omega)
        refine ⟨hFF.U nT (fun s => ?_) (fun s => ?_) (fun s => ?_) u1, u2⟩
        · have s1 := (hE1.2.1 k hk10).1; rw [s, (hE1.2.1 i k10t).2.2.2.2.2.2.1] at s1; cases s1
        · have s1 := (hE1.2.1 k hk10).2.2.2.2.2.2.1; rw [s, (hE1.2.1 i k10t).1] at s1; cases s1
        · exact nT (ok.2.2.2.1.symm.trans ((congrArg tO s).trans oi.2.2.2.1))
set_option maxHeartbeats 4000000 in
set_option maxRecDepth 100000 in
theorem k_fai2 {E : jv_E} {z : Nat → Nat → Nat} {T : Nat → Nat} {N : Nat → Nat → Nat} {tO : Nat → Nat} {h h1 : jv_H} {e : Nat} {ts : List mT} (hE : cv_E z T N h e ts) (oe : el_o z T N tO e) (hF : uFs z T e h h1) (hE1 : cv_E z T N h1 e ts) (hU : cv_Us z T h1 e ts (m_Us ts)) (hlt : (jv_l E).stackTraces = false) (G : jv_C E cX2_firstAboveItself RX2 2) (Z : jv_rm E = jv_room 26 0 0) (hr : (jv_mt E).sig.returnType = some .int) : ∀ (n i : Nat), i + n = ts.length → (∀ (j : Nat) t', j < i → ts[j]? = some t' → decide (mt_n t' ∈ c_cl ts 11 [] t') = false) → jv_V E 2 h1 0 0 (jv_Q E (fun y h' => y = some (.int (jv_oN (m_fn (fun t => decide (mt_n t ∈ c_cl ts 11 [] t)) ts))) ∧ uFs z T e h h' ∧ cv_E z T N h' e ts ∧ cv_Us z T h' e ts (m_Us ts)) jv_no 0 0) 44 [(1, .int (nI i)), (0, .ref (z 0 e))] [] := by
  intro n
  induction n with
  | zero =>
    intro i hn hb
    have hl10 := hE1.2.2.2.1
    refine jv_iload_n (q := 45) G 0 dX2_firstAboveItself_44 rfl rfl rfl ?_
    refine jv_aload_n (q := 46) G 1 dX2_firstAboveItself_45 rfl rfl rfl ?_
    refine jv_getI (q := 49) G dX2_firstAboveItself_46 fl_X2_33 rfl hE1.1.1 hE1.2.2.1 rfl ?_
    refine jv_icmp_geN (q := 52) (tgt := 89) G dX2_firstAboveItself_49 (by decide) rfl (by omega) (by omega) (fun c1 => ?_) (fun c1 => ?_)
    · refine jv_iconst (q := 90) (v := (-1)) G dX2_firstAboveItself_89 (by decide) rfl ?_
      refine jv_iret G hr dX2_firstAboveItself_90 (Nat.le_of_ble_eq_true rfl) (Nat.le_of_ble_eq_true rfl) ?_
      refine ⟨?_, hF, hE1, hU⟩
      rw [fn_none (p := (fun t => decide (mt_n t ∈ c_cl ts 11 [] t))) (fun t' ht' => by
        obtain ⟨j, hj⟩ := List.getElem?_of_mem ht'
        exact hb j t' (by have := jv_ltGet hj; omega) hj)]; rfl
    · omega
  | succ n ih =>
    intro i hn hb
    have hl10 := hE1.2.2.2.1
    obtain ⟨t, ht⟩ := jv_getLt (l := ts) (k := i) (by omega)
    have lt := jv_ltGet ht
    have k10t : i < 10 := by have := hE1.2.2.2.1; omega
    have Ot := (hE1.2.2.2.2.1 i t ht).2
    have Vt := (hE1.2.2.2.2.1 i t ht).1
    have Yt := hE1.2.1 i k10t
    have btn := Ot.1; have btk := Ot.2.1
    have Ut := hU i lt
    have umt := um_lt Ut.2.2
    have eUs : m_Us ts i = c_cl ts 11 [] t := by unfold m_Us; rw [ht]; rfl
    refine jv_iload_n (q := 45) G 0 dX2_firstAboveItself_44 rfl rfl rfl ?_
    refine jv_aload_n (q := 46) G 1 dX2_firstAboveItself_45 rfl rfl rfl ?_
    refine jv_getI (q := 49) G dX2_firstAboveItself_46 fl_X2_33 rfl hE1.1.1 hE1.2.2.1 rfl ?_
    refine jv_icmp_geN (q := 52) (tgt := 89) G dX2_firstAboveItself_49 (by decide) rfl (by omega) (by omega) (fun c1 => ?_) (fun c1 => ?_)
    · omega
    · refine jv_aload_n (q := 53) G 1 dX2_firstAboveItself_52 rfl rfl rfl ?_
      refine jv_getQ (q := 56) G dX2_firstAboveItself_53 fl_X2_11 rfl hE1.1.1 hE1.1.2.1 rfl ?_
      refine jv_iload_n (q := 57) G 0 dX2_firstAboveItself_56 rfl rfl rfl ?_
      refine jv_aaldQ (q := 58) G dX2_firstAboveItself_57 hE1.1.2.2.1 rfl (by omega) (by decide) (hE1.1.2.2.2.2.2.2 i k10t) rfl ?_
      refine jv_aload_n (q := 59) G 1 dX2_firstAboveItself_58 rfl rfl rfl ?_
      refine jv_getQ (q := 62) G dX2_firstAboveItself_59 fl_X2_11 rfl hE1.1.1 hE1.1.2.1 rfl ?_
      refine jv_iload_n (q := 63) G 0 dX2_firstAboveItself_62 rfl rfl rfl ?_
      refine jv_aaldQ (q := 64) G dX2_firstAboveItself_63 hE1.1.2.2.1 rfl (by omega) (by decide) (hE1.1.2.2.2.2.2.2 i k10t) rfl ?_
      refine jv_getI (q := 67) G dX2_firstAboveItself_64 fl_X2_40 rfl (hE1.2.1 i k10t).1 (ct_0 (hE1.2.2.2.2.1 i t ht).1) rfl ?_
      refine jv_callV_I (q := 70) (h1 := h1) (As := [.int (nI (mt_n t))]) (rest := []) (ce' := 0) (sl' := 0) (r := jv_bI ((m_um (m_Us ts i)).testBit (mt_n t))) G Z ml_X2_77 (k_isUnder hlt Yt.1 Ut.1.2.1 umt btn) (hE1.2.1 i k10t).1 dX2_firstAboveItself_67 rfl (by decide) (by decide) (by decide) (by decide) (Nat.le_of_ble_eq_true rfl) rfl rfl rfl rfl ?_
      refine jv_if_eqB (q := 73) (tgt := 83) G dX2_firstAboveItself_70 (by decide) rfl (fun c2 => ?_) (fun c2 => ?_)
      · rw [um_bit, eUs] at c2
        refine jv_iinc (q := 86) (lo' := [(1, .int (nI (i + 1))), (0, .ref (z 0 e))]) (v := nI (i + 1)) G 0 dX2_firstAboveItself_83 rfl (nI_1 i) (by decide) rfl rfl ?_
        refine jv_goto (q := 44) G dX2_firstAboveItself_86 (by decide) ?_
        refine jv_lo [0, 1] (lo' := [(1, .int (nI (i + 1))), (0, .ref (z 0 e))]) rfl ?_
        refine ih (i + 1) (by omega) (fun j t' hj ht' => ?_)
        by_cases q : j = i
        · subst q; cases ht.symm.trans ht'; exact c2
        · exact hb j t' (by omega) ht'
      · rw [um_bit, eUs] at c2
        refine jv_aload_n (q := 74) G 1 dX2_firstAboveItself_73 rfl rfl rfl ?_
        refine jv_getQ (q := 77) G dX2_firstAboveItself_74 fl_X2_11 rfl hE1.1.1 hE1.1.2.1 rfl ?_
        refine jv_iload_n (q := 78) G 0 dX2_firstAboveItself_77 rfl rfl rfl ?_
        refine jv_aaldQ (q := 79) G dX2_firstAboveItself_78 hE1.1.2.2.1 rfl (by omega) (by decide) (hE1.1.2.2.2.2.2.2 i k10t) rfl ?_
        refine jv_getI (q := 82) G dX2_firstAboveItself_79 fl_X2_40 rfl (hE1.2.1 i k10t).1 (ct_0 (hE1.2.2.2.2.1 i t ht).1) rfl ?_
        refine jv_iret G hr dX2_firstAboveItself_82 (Nat.le_of_ble_eq_true rfl) (Nat.le_of_ble_eq_true rfl) ?_
        refine ⟨?_, hF, hE1, hU⟩
        rw [fn_some (p := (fun t => decide (mt_n t ∈ c_cl ts 11 [] t))) ht c2 hb]; rfl
set_option maxHeartbeats 4000000 in
set_option maxRecDepth 100000 in
theorem k_firstAbove {lA : Launch} (hlt : lA.stackTraces = false) {D : jv_D} {base : Nat} {z : Nat → Nat → Nat} {T : Nat → Nat} {N : Nat → Nat → Nat} {tO : Nat → Nat} {h : jv_H} {e : Nat} {ts : List mT} (hE : cv_E z T N h e ts) (oe : el_o z T N tO e) : jv_Met lA D base yX2_firstAboveItself (.code yX2_firstAboveItself cX2_firstAboveItself 2 (some .int)) 26 0 0 [.ref (z 0 e)] h (fun y h' => y = some (.int (jv_oN (m_fn (fun t => decide (mt_n t ∈ c_cl ts 11 [] t)) ts))) ∧ uFs z T e h h' ∧ cv_E z T N h' e ts ∧ cv_Us z T h' e ts (m_Us ts)) jv_no := by
  refine jv_ofV (lo := [(0, .ref (z 0 e))]) hlt (by decide) (Nat.le_of_ble_eq_true rfl) rfl (fun E hEl hEd hEz Z G hr ht hnm => ?_)
  subst hEl; subst hEd; subst hEz
  refine jv_iconst (q := 1) (v := nI 0) G dX2_firstAboveItself_0 (by decide) rfl ?_
  refine jv_istore_n (q := 2) (lo' := [(1, .int (nI 0)), (0, .ref (z 0 e))]) G dX2_firstAboveItself_1 rfl (by decide) rfl rfl ?_
  refine jv_lo [0, 1] (lo' := [(1, .int (nI 0)), (0, .ref (z 0 e))]) rfl ?_
  refine k_fai1 hE oe hlt G Z (fun h2 hF hE1 hU => ?_) ts.length 0 _ (by omega) uFs.rf hE (fun k hk => by omega)
  refine jv_iconst (q := 43) (v := nI 0) G dX2_firstAboveItself_42 (by decide) rfl ?_
  refine jv_istore_n (q := 44) (lo' := [(1, .int (nI 0)), (0, .ref (z 0 e))]) G dX2_firstAboveItself_43 rfl (by decide) rfl rfl ?_
  refine jv_lo [0, 1] (lo' := [(1, .int (nI 0)), (0, .ref (z 0 e))]) rfl ?_
  exact k_fai2 hE oe hF hE1 hU hlt G Z hr ts.length 0 (by omega) (fun j t' hj => by omega)
